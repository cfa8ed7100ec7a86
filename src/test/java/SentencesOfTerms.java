/** 'Terms', its first words and part 1: numbers, the order of refusals, branches, titles, readers, days, copies. */
final class SentencesOfTerms {
    private SentencesOfTerms() {
    }

    static void all() {
        Sentences.asksNothing(1, "Words in capitals are told where they come first.");
        Sentences.asksNothing(1, "Ahead of the calls , , , , the interface says: ---- copies.");
        Sentences.asksNothing(1, "Ahead of the calls , , , , , , , , , , the interface says: ---- holds, days.");
        Sentences.asksNothing(1, "Ahead of the calls , the interface says: ---- images.");
        numbers();
        orderOfRefusals();
        ring();
        ways();
        titlesAndReaders();
        days();
        copies();
        openDays();
    }

    private static void numbers() {
        Sentences.says(4, "All numbers are whole; / cuts towards 0", """
            set 2 0 = 64
            2 * copy 0 0
            lend 0 0 = 14
            lend 1 0 = 14
            pass 21 = 21
            giveBack 0 0 = 1          # 1 and 6 / 7
            pass 7 = 28
            giveBack 1 0 = 2          # 1 and 13 / 7
            """);
        Sentences.says(2, "What has a number has it from 0 on, as it comes", """
            copy 5 3 = 0
            copy 5 3 = 1
            copy 6 0 = UNKNOWN        # what is refused takes no number
            copy 0 0 = 2
            copyOf 2 0 = 0
            """);
        Sentences.says(7, "What has a number has it from 0 on, as it comes", """
            hold 9 4 0 0 = 0
            hold 8 4 0 0 = 1
            hold 9 4 0 0 = NOT        # what is refused takes no number
            hold 7 4 0 0 = 2
            holdOf 2 0 = 7
            """);
        Sentences.says(13, "A SET is a whole number, bit k for k", """
            16 * copy 0 0
            told 5 = 65535
            lend 0 0 = 14
            told 6 = 1
            lose 15 = 0
            told 9 = 32768
            told 5 = 32766
            """);
        Sentences.says(14, "NONE is -1", """
            copy 0 0 = 0
            copyOf 0 3 = -1
            copyOf 0 4 = -1
            copyOf 0 5 = -1
            """);
        Sentences.says(13, "They are far below all that is counted: -1000000001 and on", """
            copyOf 0 0 = -1000000001
            told 16 = -1000000002
            undo = -1000000003
            16 * copy 0 0
            copy 0 0 = -1000000004
            """);
    }

    private static void orderOfRefusals() {
        Sentences.says(7, "REFUSALS, of several the first in this order: UNKNOWN (a BRANCH, TITLE, COPY, READER, HOLD, IMAGE that there is not), OUTSIDE (another number out of its bounds), NOT (not now, as told), FULL.", SentencesOfHolds.TWELVE + """
            hold 10 0 0 4 = UNKNOWN   # OUTSIDE and FULL, too
            hold 0 6 0 4 = UNKNOWN
            hold 0 0 4 4 = UNKNOWN    # OUTSIDE, NOT and FULL, too
            hold 0 0 4 0 = UNKNOWN    # NOT and FULL, too
            hold 2 1 4 0 = UNKNOWN    # FULL, too
            hold 0 0 0 4 = OUTSIDE    # NOT and FULL, too
            hold 2 1 0 4 = OUTSIDE    # FULL, too
            hold 0 0 0 0 = NOT        # FULL, too
            hold 2 1 0 0 = FULL
            """);
        Sentences.says(2, "of several the first in this order: UNKNOWN", "UNKNOWN ahead of FULL", """
            16 * copy 0 0
            copy 6 0 = UNKNOWN
            copy 0 4 = UNKNOWN
            copy 0 0 = FULL
            """);
        Sentences.says(3, "of several the first in this order: UNKNOWN", "UNKNOWN ahead of NOT", """
            3 * copy 0 0
            lend 0 0 = 14
            lend 1 0 = 14
            lend 2 0 = 14
            lend 3 0 = UNKNOWN        # three are out to him, too
            lend 0 10 = UNKNOWN       # it is out, too
            lend 0 0 = NOT
            """);
        Sentences.says(4, "of several the first in this order: UNKNOWN", "UNKNOWN ahead of NOT", """
            copy 0 0 = 0
            giveBack 0 4 = UNKNOWN
            giveBack 0 -1 = UNKNOWN
            giveBack 0 0 = NOT
            """);
        Sentences.says(9, "OUTSIDE (another number out of its bounds), NOT (not now, as told)", "OUTSIDE ahead of NOT", """
            333 * pass 30
            pass 9 = 9999
            pass 31 = OUTSIDE
            pass 2147483647 = OUTSIDE
            pass 0 = OUTSIDE
            pass 30 = NOT
            """);
        Sentences.says(14, "of several the first in this order: UNKNOWN", "UNKNOWN ahead of OUTSIDE", """
            copyOf 0 6 = UNKNOWN
            copyOf -1 -1 = UNKNOWN
            copy 0 0 = 0
            copyOf 0 6 = OUTSIDE
            """);
        Sentences.says(15, "of several the first in this order: UNKNOWN", "UNKNOWN ahead of OUTSIDE", """
            holdOf 0 9 = UNKNOWN
            holdOf -1 -1 = UNKNOWN
            hold 0 0 0 0 = 0
            holdOf 0 9 = OUTSIDE
            """);
        Sentences.says(16, "of several the first in this order: UNKNOWN", "UNKNOWN ahead of OUTSIDE", """
            titleOf 6 5 = UNKNOWN
            titleOf -1 -1 = UNKNOWN
            titleOf 5 5 = OUTSIDE
            """);
        Sentences.says(17, "of several the first in this order: UNKNOWN", "UNKNOWN ahead of OUTSIDE", """
            readerOf 10 5 = UNKNOWN
            readerOf -1 -1 = UNKNOWN
            readerOf 9 5 = OUTSIDE
            """);
        Sentences.says(19, "of several the first in this order: UNKNOWN", "UNKNOWN ahead of NOT", """
            goBack 2 = UNKNOWN
            goBack -1 = UNKNOWN
            goBack 1 = NOT
            """);
    }

    private static void ring() {
        Sentences.says(2, "BRANCHES 0 .. 3 in a ring", """
            copy 0 -1 = UNKNOWN
            copy 0 0 = 0
            copy 0 3 = 1
            copy 0 4 = UNKNOWN
            """);
        Sentences.says(4, "BRANCHES 0 .. 3 in a ring", """
            2 * copy 0 0
            lend 0 0 = 14
            lend 1 0 = 14
            giveBack 0 -1 = UNKNOWN
            giveBack 0 4 = UNKNOWN
            giveBack 0 0 = 0
            giveBack 1 3 = 0
            """);
        Sentences.says(7, "BRANCHES 0 .. 3 in a ring", """
            hold 0 0 -1 0 = UNKNOWN
            hold 0 0 4 0 = UNKNOWN
            hold 0 0 0 0 = 0
            hold 1 0 3 0 = 1
            """);
    }

    private static void ways() {
        String name = Sentences.says(7, "the WAY of two: 1 if one is next to the other (0 and 3, too), 2 across, 0 of one to itself");
        int[][] ways = {{0, 1, 2, 1}, {1, 0, 1, 2}, {2, 1, 0, 1}, {1, 2, 1, 0}};
        for (int from = 0; from < 4; from++) {
            for (int to = 0; to < 4; to++) {
                LoanHouse house = new LoanHouse();
                house.pass(5);
                house.copy(0, from);
                house.hold(0, 0, to, 0);
                int way = ways[from][to];
                Script.due(name + " from " + from + " to " + to + ", what it is", house.copyOf(0, 2), way == 0 ? 2 : 3);
                Script.due(name + " from " + from + " to " + to + ", the day", house.copyOf(0, 4), way == 0 ? 8 : 5 + way);
            }
        }
    }

    private static void titlesAndReaders() {
        Sentences.says(2, "TITLES 0 .. 5", """
            copy -1 0 = UNKNOWN
            copy 0 0 = 0
            copy 5 0 = 1
            copy 6 0 = UNKNOWN
            """);
        Sentences.says(7, "TITLES 0 .. 5", """
            hold 0 -1 0 0 = UNKNOWN
            hold 0 0 0 0 = 0
            hold 0 5 0 0 = 1
            hold 0 6 0 0 = UNKNOWN
            """);
        Sentences.says(16, "TITLES 0 .. 5", """
            titleOf -1 0 = UNKNOWN
            titleOf 0 0 = 0
            titleOf 5 0 = 0
            titleOf 6 0 = UNKNOWN
            """);
        Sentences.says(3, "READERS 0 .. 9", """
            2 * copy 0 0
            lend 0 -1 = UNKNOWN
            lend 0 10 = UNKNOWN
            lend 0 0 = 14
            lend 1 9 = 14
            """);
        Sentences.says(7, "READERS 0 .. 9", """
            hold -1 0 0 0 = UNKNOWN
            hold 0 0 0 0 = 0
            hold 9 0 0 0 = 1
            hold 10 0 0 0 = UNKNOWN
            """);
        Sentences.says(17, "READERS 0 .. 9, each at home in a BRANCH: what is left of its number by 4", """
            readerOf -1 4 = UNKNOWN
            readerOf 0 4 = 0
            readerOf 1 4 = 1
            readerOf 2 4 = 2
            readerOf 3 4 = 3
            readerOf 4 4 = 0
            readerOf 5 4 = 1
            readerOf 6 4 = 2
            readerOf 7 4 = 3
            readerOf 8 4 = 0
            readerOf 9 4 = 1
            readerOf 10 4 = UNKNOWN
            """);
    }

    private static void days() {
        Sentences.says(1, "DAYS: NOW is one (0 at first)", """
            told 0 = 0
            """);
        Sentences.says(13, "a DAY is CLOSED, if what is left of it by 7 is one of the CLOSED ones (a SET of 0 .. 6; 64 at first)", """
            told 3 = 64
            told 14 = 0
            pass 5 = 5
            told 14 = 0
            pass 1 = 6
            told 14 = 1
            pass 1 = 7                # the week goes round
            told 14 = 0
            pass 5 = 12
            told 14 = 0
            pass 1 = 13
            told 14 = 1
            """);
        String name = Sentences.says(13, "a DAY is CLOSED, if what is left of it by 7 is one of the CLOSED ones");
        for (int closed = 0; closed < 128; closed++) {
            LoanHouse house = new LoanHouse();
            house.set(2, closed);
            for (int day = 0; day < 15; day++) {
                Script.due(name + " " + closed + " on day " + day, house.told(14), closed / (1 << day % 7) % 2);
                house.pass(1);
            }
        }
    }

    private static void copies() {
        Sentences.says(1, "COPIES (16 at most; none at first) of a TITLE, at a BRANCH", "none at first", """
            told 4 = 0
            titleOf 0 0 = 0
            copyOf 0 0 = UNKNOWN
            """);
        Sentences.says(2, "COPIES (16 at most; none at first) of a TITLE, at a BRANCH", "16 at most", """
            15 * copy 0 0
            copy 3 2 = 15
            copy 3 2 = FULL
            told 4 = 16
            copyOf 15 0 = 3
            copyOf 15 1 = 2
            copyOf 16 0 = UNKNOWN
            """);
        Sentences.says(14, "each is IN, OUT (lent to a READER, with a DUE day), KEPT (for a HOLD, at its BRANCH, until a day), ON ITS WAY (to a BRANCH, for a HOLD, there on a day), or LOST", """
            copy 0 0 = 0
            copyOf 0 2 = 0
            copyOf 0 3 = NONE
            copyOf 0 4 = NONE
            hold 7 0 1 0 = 0
            copyOf 0 2 = 3
            copyOf 0 1 = 1
            copyOf 0 3 = 0
            copyOf 0 4 = 1
            pass 1 = 1
            copyOf 0 2 = 2
            copyOf 0 1 = 1
            copyOf 0 3 = 0
            copyOf 0 4 = 4
            lend 0 7 = 15
            copyOf 0 2 = 1
            copyOf 0 1 = 1
            copyOf 0 3 = 7
            copyOf 0 4 = 15
            lose 0 = 1
            copyOf 0 2 = 4
            copyOf 0 3 = NONE
            copyOf 0 4 = NONE
            """);
        Sentences.says(1, "TERM: 14 days, PATIENCE: 3 days (as told later)", """
            told 1 = 14
            told 2 = 3
            """);
    }

    private static void openDays() {
        String name = Sentences.says(3, "OPEN DAY from a day on: that day, or the first later one that is not CLOSED (if all seven are CLOSED: that day)");
        for (int closed = 0; closed < 128; closed++) {
            for (int now = 1; now <= 7; now++) {
                for (int term = 1; term <= 8; term++) {
                    LoanHouse house = new LoanHouse();
                    house.pass(now);
                    house.set(2, closed);
                    house.set(0, term);
                    house.copy(0, 0);
                    String one = name + " CLOSED " + closed + ", NOW " + now + ", TERM " + term;
                    Script.due(one + ", lent", house.lend(0, 0), openDay(now + term, closed));
                    Script.due(one + ", renewed", house.renew(0), openDay(now + term, closed));
                }
            }
        }
    }

    private static int openDay(int from, int closed) {
        if (closed == 127) {
            return from;
        }
        int day = from;
        while (closed / (1 << day % 7) % 2 == 1) {
            day++;
        }
        return day;
    }
}

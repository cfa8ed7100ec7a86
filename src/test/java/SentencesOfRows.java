/** 'Terms', part 2: holds and rows, how all are served, how a day passes, what lending and giving back do, steps, what is owed. */
final class SentencesOfRows {
    private SentencesOfRows() {
    }

    static void all() {
        holds();
        rows();
        numbersOfHolds();
        served();
        dayPasses();
        lent();
        stepsAndOwed();
    }

    private static void holds() {
        Sentences.says(7, "HOLDS (12 at a time at most)", """
            hold 0 0 0 0 = 0
            giveUp 0 = 0
            hold 0 0 0 0 = 1
            hold 1 0 0 0 = 2
            hold 2 0 0 0 = 3
            hold 3 0 0 0 = 4
            hold 4 0 0 0 = 5
            hold 5 0 0 0 = 6
            hold 6 0 0 0 = 7
            hold 7 0 0 0 = 8
            hold 8 0 0 0 = 9
            hold 9 0 0 0 = 10
            hold 0 1 0 0 = 11         # the twelfth made, the eleventh at a time
            hold 1 1 0 0 = 12
            told 10 = 12
            hold 2 1 0 0 = FULL
            """);
        Sentences.says(15, "a READER, a TITLE, a BRANCH where it is to be fetched, a NEED (0 .. 3)", """
            hold 9 5 3 3 = 0
            holdOf 0 0 = 9
            holdOf 0 1 = 5
            holdOf 0 2 = 3
            holdOf 0 3 = 3
            hold 0 0 0 0 = 1
            holdOf 1 0 = 0
            holdOf 1 1 = 0
            holdOf 1 2 = 0
            holdOf 1 3 = 0
            """);
        Sentences.says(7, "No two of one READER for one TITLE", """
            hold 4 2 0 0 = 0
            hold 4 2 3 3 = NOT
            hold 4 3 0 0 = 1
            hold 5 2 0 0 = 2
            giveUp 0 = 2
            hold 4 2 3 3 = 3
            """);
        Sentences.says(7, "none is made for one whose COPY he has OUT", """
            copy 2 0 = 0
            lend 0 4 = 14
            hold 4 2 0 0 = NOT
            hold 4 3 0 0 = 0
            hold 5 2 0 0 = 1
            """);
        Sentences.says(15, "A HOLD WAITS, is on the WAY, or is READY (a COPY KEPT for it)", """
            hold 0 0 2 0 = 0
            holdOf 0 5 = 0
            copy 0 0 = 0
            holdOf 0 5 = 1
            pass 1 = 1
            holdOf 0 5 = 1
            pass 1 = 2
            holdOf 0 5 = 2
            lose 0 = 2
            holdOf 0 5 = 0
            """);
    }

    private static void rows() {
        Sentences.says(15, "THE ROW of a TITLE: those that WAIT, the greatest NEED first, then the least number of HOLD", """
            hold 0 0 0 2 = 0
            hold 1 0 0 0 = 1
            hold 2 0 0 3 = 2
            hold 3 0 0 2 = 3
            hold 4 0 0 3 = 4
            hold 5 1 0 3 = 5          # another row
            holdOf 2 7 = 0
            holdOf 4 7 = 1
            holdOf 0 7 = 2
            holdOf 3 7 = 3
            holdOf 1 7 = 4
            holdOf 5 7 = 0
            copy 0 0 = 0              # the first is ready: it does not wait
            holdOf 2 7 = NONE
            holdOf 4 7 = 0
            holdOf 1 7 = 3
            """);
        Sentences.says(4, "the greatest NEED first, then the least number of HOLD", "each is given its copy in that order", """
            copy 0 0 = 0
            lend 0 9 = 14
            hold 0 0 0 0 = 0
            hold 1 0 0 1 = 1
            hold 2 0 0 1 = 2
            giveBack 0 0 = 0
            copyOf 0 3 = 1
            lend 0 1 = 14
            giveBack 0 0 = 0
            copyOf 0 3 = 2
            lend 0 2 = 14
            giveBack 0 0 = 0
            copyOf 0 3 = 0
            """);
    }

    private static void numbersOfHolds() {
        Sentences.says(7, "(numbers rise, none is used again)", "given up, lent, run out", """
            set 1 1 = 3
            hold 0 0 0 0 = 0
            giveUp 0 = 0
            hold 0 0 0 0 = 1
            copy 0 0 = 0
            lend 0 0 = 14
            hold 1 0 0 0 = 2
            giveBack 0 0 = 0
            pass 2 = 2                # 2 has run out
            told 10 = 0
            hold 1 0 0 0 = 3
            holdOf 0 0 = UNKNOWN
            holdOf 1 0 = UNKNOWN
            holdOf 2 0 = UNKNOWN
            holdOf 3 0 = 1
            """);
        String name = Sentences.says(7, "(numbers rise, none is used again)");
        LoanHouse house = new LoanHouse();
        for (int i = 0; i < 255; i++) {
            Script.due(name + " hold", house.hold(i % 10, i % 6, 0, 0), i);
            Script.due(name + " giveUp", house.giveUp(i), 0);
        }
        Script.due(name + " the 511th call", house.hold(0, 0, 0, 0), 255);
        Script.due(name + " the 512th call", house.holdOf(255, 7), 0);
    }

    private static void served() {
        Sentences.says(2, "SERVED, whenever something changed: for TITLES, rising, as long as THE ROW has a HOLD and some COPY of it is IN", "no HOLD in the row", """
            copy 0 0 = 0
            copy 0 0 = 1
            told 5 = 3
            hold 0 0 0 0 = 0
            told 7 = 1
            told 5 = 2                # the other stays IN
            """);
        Sentences.says(7, "as long as THE ROW has a HOLD and some COPY of it is IN", "no COPY is IN", """
            copy 0 0 = 0
            copy 1 0 = 1
            lend 0 0 = 14
            hold 1 0 0 0 = 0
            holdOf 0 5 = 0
            told 5 = 2                # a COPY of another TITLE
            lose 0 = 1
            holdOf 0 5 = 0
            """);
        Sentences.says(9, "for TITLES, rising, as long as THE ROW has a HOLD and some COPY of it is IN", "the first and the last TITLE, several at once", """
            set 1 1 = 3
            2 * copy 0 0
            2 * copy 5 0
            hold 0 0 0 0 = 0
            hold 1 0 0 0 = 1
            hold 2 5 0 0 = 2
            hold 3 5 0 0 = 3
            hold 4 0 0 0 = 4
            hold 5 0 0 0 = 5
            hold 6 5 0 0 = 6
            hold 7 5 0 0 = 7
            told 11 = 4
            pass 1 = 1
            told 11 = 4
            pass 1 = 2
            told 11 = 0
            told 10 = 4
            told 7 = 15
            copyOf 0 3 = 4
            copyOf 1 3 = 5
            copyOf 2 3 = 6
            copyOf 3 3 = 7
            """);
        Sentences.says(7, "the first of THE ROW gets, of the COPIES IN, that with the least WAY from its BRANCH to that where it is to be fetched", """
            copy 0 2 = 0              # WAY 2
            copy 0 3 = 1              # WAY 1
            copy 0 0 = 2              # WAY 0
            copy 1 0 = 3
            hold 0 0 0 0 = 0
            holdOf 0 6 = 2
            hold 1 0 0 0 = 1
            holdOf 1 6 = 1
            hold 2 0 0 0 = 2
            holdOf 2 6 = 0
            hold 3 0 0 0 = 3
            holdOf 3 6 = NONE
            """);
        Sentences.says(7, "of like ones the least number", """
            copy 0 1 = 0
            copy 0 3 = 1
            copy 0 1 = 2
            hold 0 0 0 0 = 0
            holdOf 0 6 = 0
            hold 1 0 0 0 = 1
            holdOf 1 6 = 1
            hold 2 0 1 0 = 2
            holdOf 2 6 = 2
            """);
        Sentences.says(7, "with WAY 0 it is KEPT there until PATIENCE days behind NOW", """
            pass 10 = 10
            set 1 20 = 3
            copy 0 3 = 0
            copy 0 3 = 1
            hold 0 0 3 0 = 0
            copyOf 0 2 = 2
            copyOf 0 1 = 3
            copyOf 0 4 = 30
            set 1 1 = 20
            hold 1 0 3 0 = 1
            copyOf 1 4 = 11
            """);
        Sentences.says(7, "else it is ON ITS WAY, there WAY days behind NOW", """
            pass 10 = 10
            copy 0 3 = 0
            copy 0 2 = 1
            hold 0 0 0 0 = 0
            copyOf 0 2 = 3
            copyOf 0 1 = 0
            copyOf 0 4 = 11
            hold 1 0 0 0 = 1
            copyOf 1 2 = 3
            copyOf 1 1 = 0
            copyOf 1 4 = 12
            """);
    }

    private static void dayPasses() {
        Sentences.says(9, "A DAY PASSES: NOW is one more.", """
            pass 1 = 1
            told 0 = 1
            pass 1 = 2
            told 0 = 2
            """);
        Sentences.says(9, "Then COPIES, rising: one ON ITS WAY that is there by NOW is KEPT until PATIENCE days behind NOW (its BRANCH is that one)", """
            copy 0 0 = 0
            copy 1 0 = 1
            hold 0 0 2 0 = 0
            hold 0 1 1 0 = 1
            set 1 5 = 3               # that of the day it is there
            pass 1 = 1
            copyOf 0 2 = 3            # one day is left
            copyOf 0 4 = 2
            copyOf 1 2 = 2
            copyOf 1 4 = 6
            pass 1 = 2
            copyOf 0 2 = 2
            copyOf 0 1 = 2
            copyOf 0 3 = 0
            copyOf 0 4 = 7
            """);
        Sentences.says(9, "one KEPT until a day ahead of NOW: its HOLD has run out (it is gone), the COPY is IN there", """
            copy 0 2 = 0
            hold 0 0 2 0 = 0
            copyOf 0 4 = 3
            pass 3 = 3
            copyOf 0 2 = 2            # the last day is one of them
            told 10 = 1
            pass 1 = 4
            copyOf 0 2 = 0
            copyOf 0 1 = 2
            copyOf 0 3 = NONE
            copyOf 0 4 = NONE
            holdOf 0 0 = UNKNOWN
            told 10 = 0
            readerOf 0 1 = 0
            """);
        Sentences.says(9, "Then all are SERVED.", """
            set 1 1 = 3
            copy 0 0 = 0
            copy 0 3 = 1
            hold 0 0 0 0 = 0
            hold 1 0 3 0 = 1
            hold 2 0 0 0 = 2
            hold 3 0 3 3 = 3
            pass 1 = 1
            told 11 = 2
            pass 1 = 2                # both have run out before the first of the row takes one
            copyOf 1 3 = 3
            copyOf 1 2 = 2
            copyOf 1 4 = 3
            copyOf 0 3 = 2
            copyOf 0 2 = 2
            told 11 = 0
            """);
    }

    private static void lent() {
        Sentences.says(3, "LENT: to a READER: a COPY that is KEPT for a HOLD of his (the HOLD is gone then), or that is IN", """
            copy 0 0 = 0
            copy 0 0 = 1
            hold 6 0 0 0 = 0
            lend 0 7 = NOT
            lend 0 6 = 14
            holdOf 0 0 = UNKNOWN
            told 10 = 0
            lend 1 7 = 14
            copyOf 1 3 = 7
            """);
        Sentences.says(3, "a COPY that is KEPT for a HOLD of his (the HOLD is gone then), or that is IN", "with one that is IN his HOLD for another stays", """
            copy 0 0 = 0
            copy 0 1 = 1
            hold 6 0 0 0 = 0
            lend 1 6 = 14
            holdOf 0 5 = 2
            lend 0 6 = 14
            told 10 = 0
            """);
        Sentences.says(3, "DUE is the OPEN DAY from NOW and TERM on.", """
            copy 0 0 = 0
            copy 0 0 = 1
            pass 5 = 5
            set 0 7 = 14
            lend 0 0 = 12
            set 0 8 = 7
            lend 1 0 = 14             # 13 is CLOSED
            copyOf 1 4 = 14
            """);
        Sentences.says(3, "At most 3 are OUT to one.", """
            5 * copy 0 0
            lend 0 0 = 14
            lend 1 0 = 14
            lend 2 0 = 14
            lend 3 0 = NOT
            lend 3 1 = 14
            giveBack 1 0 = 0
            lend 4 0 = 14
            lend 1 0 = NOT
            """);
        Sentences.says(4, "GIVEN BACK at a BRANCH: it is IN there (a LOST one, too, then).", """
            2 * copy 0 0
            lend 0 0 = 14
            giveBack 0 3 = 0
            copyOf 0 2 = 0
            copyOf 0 1 = 3
            copyOf 0 3 = NONE
            copyOf 0 4 = NONE
            lose 1 = 0
            giveBack 1 2 = 0
            copyOf 1 2 = 0
            copyOf 1 1 = 2
            told 9 = 0
            """);
        Sentences.says(5, "RENEWED: DUE is the OPEN DAY from NOW and TERM on, if nobody is in THE ROW of that TITLE.", """
            copy 0 0 = 0
            copy 1 0 = 1
            lend 0 0 = 14
            lend 1 0 = 14
            pass 20 = 20
            renew 0 = 35              # 34 is CLOSED
            copyOf 0 4 = 35
            copyOf 0 2 = 1
            copyOf 0 3 = 0
            hold 1 1 0 0 = 0
            renew 0 = 35
            renew 1 = NOT
            copyOf 1 4 = 14
            """);
    }

    private static void stepsAndOwed() {
        Sentences.says(14, "STEP of a COPY that is OUT: 0, if NOW is DUE at most; else 1 and (NOW less DUE less 1) / 7, 4 at most.", """
            set 2 0 = 64
            set 0 5 = 14
            copy 0 0 = 0
            lend 0 0 = 5
            copyOf 0 5 = 0
            pass 5 = 5
            copyOf 0 5 = 0
            pass 1 = 6
            copyOf 0 5 = 1
            pass 6 = 12
            copyOf 0 5 = 1
            pass 1 = 13
            copyOf 0 5 = 2
            pass 6 = 19
            copyOf 0 5 = 2
            pass 1 = 20
            copyOf 0 5 = 3
            pass 6 = 26
            copyOf 0 5 = 3
            pass 1 = 27
            copyOf 0 5 = 4
            pass 6 = 33
            copyOf 0 5 = 4
            pass 1 = 34
            copyOf 0 5 = 4            # 4 at most
            pass 30 = 64
            copyOf 0 5 = 4
            """);
        Sentences.says(14, "A LOST one has none.", """
            copy 0 0 = 0
            lend 0 0 = 14
            pass 20 = 20
            copyOf 0 5 = 1
            readerOf 0 3 = 1
            lose 0 = 1
            copyOf 0 5 = NONE
            readerOf 0 3 = 0
            told 13 = 0
            """);
        Sentences.says(17, "OWED by a READER: for each COPY OUT to him 5 times (NOW less DUE), 0 at least.", """
            set 2 0 = 64
            3 * copy 0 0
            set 0 1 = 14
            lend 0 0 = 1
            set 0 60 = 1
            lend 1 0 = 60
            readerOf 0 2 = 0
            pass 1 = 1
            readerOf 0 2 = 0
            pass 1 = 2
            readerOf 0 2 = 5          # the other takes nothing off
            readerOf 1 2 = 0
            pass 30 = 32
            readerOf 0 2 = 155
            pass 29 = 61
            readerOf 0 2 = 305        # 5 times 60 and 5
            giveBack 0 0 = 4
            readerOf 0 2 = 5
            """);
        String name = Sentences.says(17, "5 times (NOW less DUE), 0 at least");
        LoanHouse house = new LoanHouse();
        for (int copy = 0; copy < 3; copy++) {
            house.copy(0, 0);
            house.set(0, 1);
            house.lend(copy, 0);
        }
        for (int i = 0; i < 333; i++) {
            house.pass(30);
        }
        house.pass(9);
        Script.due(name + ", three COPIES on the last day", house.readerOf(0, 2), 3 * 5 * 9998);
        Script.due(name + ", the STEP is 4 at most then, too", house.readerOf(0, 3), 4);
    }
}

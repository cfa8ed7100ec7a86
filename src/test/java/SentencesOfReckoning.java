/** 'Terms', part 3: trips, the longest wait, soon, lots, what is undone, images. */
final class SentencesOfReckoning {
    private SentencesOfReckoning() {
    }

    static void all() {
        trips();
        allTrips();
        waits();
        soon();
        lots();
        lotsThatDoNotCome();
        undone();
    }

    private static void trips() {
        Sentences.says(13, "TRIPS: unlike pairs (from, to) of BRANCHES between which COPIES were put ON THEIR WAY on the day NOW, how many.", """
            told 12 = 0
            3 * copy 0 0
            copy 1 1 = 3
            hold 0 0 0 0 = 0          # WAY 0 is no trip
            told 12 = 0
            hold 1 0 1 0 = 1
            told 12 = 1
            hold 2 0 1 0 = 2          # a like pair
            told 12 = 1
            hold 3 1 0 0 = 3          # the pair the other way round is another
            told 12 = 2
            pass 1 = 1                # they were put on their way the day before
            told 12 = 0
            """);
        Sentences.says(13, "between which COPIES were put ON THEIR WAY on the day NOW", "by the serving of that day", """
            set 1 1 = 3
            copy 0 0 = 0
            hold 0 0 0 0 = 0
            hold 1 0 2 0 = 1
            pass 1 = 1
            told 12 = 0
            pass 1 = 2
            copyOf 0 2 = 3
            told 12 = 1
            pass 1 = 3                # it is still on its way, but was not put on it today
            copyOf 0 2 = 3
            told 12 = 0
            """);
        Sentences.says(13, "between which COPIES were put ON THEIR WAY on the day NOW", "on a day that passed with others", """
            set 1 1 = 3
            copy 0 0 = 0
            hold 0 0 0 0 = 0
            hold 1 0 2 0 = 1
            pass 3 = 3
            copyOf 0 2 = 3
            told 12 = 0
            """);
    }

    private static void allTrips() {
        String name = Sentences.says(13, "unlike pairs (from, to) of BRANCHES");
        LoanHouse house = new LoanHouse();
        int pairs = 0;
        for (int from = 0; from < 4; from++) {
            for (int to = 0; to < 4; to++) {
                if (from != to) {
                    house.copy(pairs % 6, from);
                    house.hold(pairs % 10, pairs % 6, to, 0);
                    pairs++;
                    Script.due(name + ", with " + from + " to " + to, house.told(12), pairs);
                }
            }
        }
        house.lose(0);
        Script.due(name + ", all twelve, and one of the copies lost", house.told(12), 12);
        house.pass(1);
        Script.due(name + ", on the next day", house.told(12), 0);
    }

    private static void waits() {
        Sentences.says(16, "LONGEST WAIT of THE ROW: of a HOLD that WAITS: how many days since it was made.", """
            titleOf 0 4 = 0
            hold 0 0 0 0 = 0
            titleOf 0 4 = 0           # made today
            pass 1 = 1
            titleOf 0 4 = 1
            hold 1 0 0 3 = 1          # the first of the row is not the one that waits longest
            pass 2 = 3
            titleOf 0 4 = 3
            titleOf 1 4 = 0
            giveUp 0 = 1
            titleOf 0 4 = 2
            copy 0 0 = 0              # it is ready: nobody waits
            titleOf 0 4 = 0
            pass 1 = 4
            lose 0 = 2                # it waits again, since it was made
            titleOf 0 4 = 3
            """);
    }

    private static void soon() {
        Sentences.says(15, "SOON of the HOLD at place k of THE ROW: the k-th (0 the first) of the days, put in order, on which COPIES of its TITLE could be IN", """
            set 2 0 = 64
            3 * copy 0 0
            copy 1 0 = 3
            set 0 9 = 14
            lend 0 0 = 9
            set 0 2 = 9
            lend 1 0 = 2
            set 0 5 = 2
            lend 2 0 = 5
            set 0 1 = 5
            lend 3 1 = 1              # another TITLE
            hold 2 0 0 0 = 0
            hold 3 0 0 1 = 1
            hold 4 0 0 2 = 2
            holdOf 2 8 = 2
            holdOf 1 8 = 5
            holdOf 0 8 = 9
            """);
        Sentences.says(15, "one that is IN: NOW", """
            pass 4 = 4
            copy 0 0 = 0
            hold 0 0 0 0 = 0          # so it is READY at once
            holdOf 0 8 = 4
            """);
        Sentences.says(15, "one that is OUT: DUE, but NOW and 1, if that is not above NOW", """
            set 2 0 = 64
            set 0 2 = 14
            copy 0 0 = 0
            lend 0 0 = 2
            hold 1 0 0 0 = 0
            holdOf 0 8 = 2
            pass 1 = 1
            holdOf 0 8 = 2            # DUE is NOW and 1
            pass 1 = 2
            holdOf 0 8 = 3            # DUE is NOW
            pass 1 = 3
            holdOf 0 8 = 4
            pass 30 = 33
            holdOf 0 8 = 34
            """);
        Sentences.says(15, "one KEPT: the day behind its last", """
            set 1 1 = 3
            copy 0 0 = 0
            hold 0 0 0 0 = 0
            hold 1 0 0 0 = 1
            holdOf 1 8 = 2
            pass 1 = 1
            holdOf 1 8 = 2
            pass 1 = 2                # and so it comes
            holdOf 1 5 = 2
            """);
        Sentences.says(15, "others have none; NEVER: not so many", """
            copy 0 0 = 0
            copy 0 0 = 1
            hold 0 0 2 0 = 0          # copy 0 is on its way
            lose 1 = 0
            hold 1 0 0 0 = 1
            holdOf 1 8 = NEVER
            hold 2 5 0 0 = 2          # a TITLE without COPIES
            holdOf 2 8 = NEVER
            """);
        Sentences.says(15, "NEVER: not so many", "as many days as there are, and one more", """
            2 * copy 0 0
            lend 0 0 = 14
            lend 1 1 = 14
            hold 2 0 0 0 = 0
            hold 3 0 0 0 = 1
            hold 4 0 0 0 = 2
            holdOf 0 8 = 14
            holdOf 1 8 = 14
            holdOf 2 8 = 99999
            """);
    }

    /** Seed 999999: 1774597664, 1410049312, 1216742139, 1445843439, 1513213468; seeds 1 to 4 are written out beside their rows. */
    private static void lots() {
        Sentences.says(11, "BY LOTS of a SEED, n times: X (the SEED at first) becomes what is left of (X times 16807) by 2147483647 ahead of each number wanted", """
            drift 1 1 = 1             # 16807 by 4 is 3: a day, where 1 by 4 would be lent
            drift 1 1 = 2             # each call begins with its own seed
            drift 1 127774 = 3        # 2147497618, so 13971 is left
            drift 1 999999 = 3        # the greatest seed: 0: hold(2, 3, 3, 0)
            holdOf 0 0 = 2
            holdOf 0 1 = 3
            holdOf 0 2 = 3
            holdOf 0 3 = 0
            """);
        Sentences.says(11, "X left over by 4: 0: hold(READER X by 10, TITLE X by 6, BRANCH X by 4, NEED X by 4)", """
            drift 1 4 = 0             # 67228: 0; 1129900996, 48149351, 1792290985, 281468426
            told 10 = 1
            holdOf 0 0 = 6
            holdOf 0 1 = 5
            holdOf 0 2 = 1
            holdOf 0 3 = 2
            """);
        Sentences.says(11, "1: lend(COPY X by how many there are, READER X by 10)", """
            16 * copy 0 0
            drift 1 3 = 0             # 50421: 1; 847425747, 572982925
            told 6 = 8
            copyOf 3 3 = 5
            copyOf 3 4 = 14
            """);
        Sentences.says(11, "1: lend(COPY X by how many there are, READER X by 10)", "LOST ones are some of them", """
            3 * copy 0 0
            copy 1 0 = 3
            copy 1 0 = 4
            lose 4 = 0
            drift 1 999998 = 0        # 1774580857: 1; 1127574063 by 5, 1741575713
            told 6 = 8
            copyOf 3 3 = 3
            """);
        Sentences.says(11, "2: giveBack(COPY X by how many, BRANCH X by 4)", """
            3 * copy 0 0
            lend 2 0 = 14
            drift 1 2 = 0             # 33614: 2; 564950498, 1097816499
            told 5 = 7
            copyOf 2 1 = 3
            """);
        Sentences.says(11, "3: a DAY PASSES.", """
            copy 0 0 = 0
            hold 0 0 1 0 = 0
            drift 1 1 = 1
            copyOf 0 2 = 2            # all that a DAY brings
            told 12 = 0
            """);
        Sentences.says(11, "3: a DAY PASSES.", "the last day is a bound of pass() alone", """
            333 * pass 30
            pass 9 = 9999
            drift 1 1 = 10000
            pass 1 = NOT
            """);
    }

    private static void lotsThatDoNotCome() {
        Sentences.says(11, "(Without COPIES 1 and 2 want nothing more.", """
            drift 3 3 = 1             # 50421: 1; 847425747: 3; 572982925: 1
            drift 3 2 = 2             # 33614: 2; 564950498: 2; 1097816499: 3
            told 10 = 0
            """);
        Sentences.says(11, "What is refused does not come.)", "giveBack of one that is IN", """
            copy 0 3 = 0
            drift 3 34 = 1            # giveBack(0, 3), a day, giveBack(0, 1)
            copyOf 0 1 = 3
            copyOf 0 2 = 0
            told 15 = 2
            """);
        Sentences.says(11, "What is refused does not come.)", "lend of one that is OUT", """
            copy 0 0 = 0
            drift 3 7 = 0             # lend(0, 6), lend(0, 7), hold(8, 1, 1, 2)
            copyOf 0 3 = 6
            holdOf 0 0 = 8
            """);
        Sentences.says(11, "What is refused does not come.)", "hold of one who has one", """
            hold 6 5 0 0 = 0
            drift 2 4 = 0             # hold(6, 5, 1, 2), hold(6, 0, 2, 3)
            told 10 = 2
            holdOf 0 2 = 0
            holdOf 1 1 = 0
            holdOf 1 2 = 2
            """);
        Sentences.says(11, "What is refused does not come.)", "hold where 12 are", SentencesOfHolds.TWELVE + """
            drift 1 4 = 0
            told 10 = 12
            titleOf 5 2 = 0
            giveUp 0 = 11
            drift 1 4 = 0             # and then it comes, with the next number
            holdOf 12 1 = 5
            """);
    }

    private static void undone() {
        Sentences.says(12, "UNDONE: the latest deed (all but keep(), goBack()) that was not refused", "each deed is one", """
            copy 0 0 = 0
            told 15 = 1
            lend 0 0 = 14
            told 15 = 2
            renew 0 = 14
            told 15 = 3
            giveBack 0 0 = 0
            told 15 = 4
            lose 0 = 0
            told 15 = 5
            hold 0 0 0 0 = 0
            told 15 = 6
            giveUp 0 = 0
            told 15 = 7
            pass 30 = 30
            told 15 = 8
            8 * undo
            told 15 = 0
            set 0 14 = 14             # to what it is, too
            told 15 = 1
            drift 20 386 = 0          # many lots are one deed
            told 15 = 2
            """);
        Sentences.says(12, "that was not refused", "neither what was refused nor what was asked is undone", """
            pass 1 = 1
            pass 1 = 2
            copy 6 0 = UNKNOWN
            pass 31 = OUTSIDE
            goBack 0 = NOT
            told 0 = 2
            copyOf 0 0 = UNKNOWN
            holdOf 0 0 = UNKNOWN
            titleOf 0 0 = 0
            readerOf 0 0 = 0
            undo = 1
            told 0 = 1
            """);
        Sentences.says(12, "(8 at most are kept, the oldest are lost)", """
            7 * pass 1
            told 15 = 7
            pass 1 = 8
            told 15 = 8
            pass 1 = 9
            told 15 = 8
            8 * undo
            told 0 = 1                # the first one is lost
            undo = NOT
            told 0 = 1
            """);
        Sentences.says(18, "IMAGES 0, 1 keep all.", """
            keep -1 = UNKNOWN
            pass 1 = 1
            keep 0 = 1
            pass 1 = 2
            keep 1 = 2
            keep 2 = UNKNOWN
            pass 1 = 3
            goBack 0 = 1
            goBack 1 = 2
            """);
    }
}

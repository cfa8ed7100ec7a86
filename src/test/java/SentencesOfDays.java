/** Promises 9 to 12: pass, set, drift, undo. */
final class SentencesOfDays {
    private SentencesOfDays() {
    }

    static void all() {
        pass();
        set();
        setShows();
        drift();
        undo();
        undoEachDeed();
    }

    private static void pass() {
        Sentences.says(9, "n DAYS PASS (1 .. 30): NOW.", """
            pass 1 = 1
            pass 30 = 31
            told 0 = 31
            """);
        Sentences.says(9, "n DAYS PASS (1 .. 30): NOW.", "each of them is a DAY of its own", """
            set 1 1 = 3
            copy 0 0 = 0
            hold 0 0 0 0 = 0
            hold 1 0 2 0 = 1
            hold 2 0 0 0 = 2
            pass 30 = 30              # KEPT, ON ITS WAY, KEPT, ON ITS WAY, KEPT: all have run out
            told 10 = 0
            copyOf 0 2 = 0
            copyOf 0 1 = 0
            """);
        Sentences.says(9, "OUTSIDE", """
            pass 0 = OUTSIDE
            pass 31 = OUTSIDE
            pass -1 = OUTSIDE
            pass -2147483648 = OUTSIDE
            pass 2147483647 = OUTSIDE
            """);
        Sentences.says(9, "NOT: NOW would be above 9999.", """
            332 * pass 30
            pass 9 = 9969
            keep 0 = 9969
            pass 30 = 9999
            pass 1 = NOT
            pass 30 = NOT
            goBack 0 = 9969
            pass 1 = 9970
            pass 30 = NOT
            pass 29 = 9999
            told 0 = 9999
            """);
    }

    private static void set() {
        Sentences.says(10, "what = 0 TERM (1 .. 60)", """
            set 0 0 = OUTSIDE
            set 0 61 = OUTSIDE
            set 0 -2147483648 = OUTSIDE
            set 0 2147483647 = OUTSIDE
            told 1 = 14
            set 0 1 = 14
            told 1 = 1
            set 0 60 = 1
            told 1 = 60
            """);
        Sentences.says(10, "1 PATIENCE (1 .. 20)", """
            set 1 0 = OUTSIDE
            set 1 21 = OUTSIDE
            set 1 -2147483648 = OUTSIDE
            set 1 2147483647 = OUTSIDE
            told 2 = 3
            set 1 1 = 3
            told 2 = 1
            set 1 20 = 1
            told 2 = 20
            """);
        Sentences.says(10, "2 CLOSED ones (a SET) becomes v: what it was.", """
            set 2 -1 = OUTSIDE
            set 2 128 = OUTSIDE
            set 2 -2147483648 = OUTSIDE
            set 2 2147483647 = OUTSIDE
            told 3 = 64
            set 2 0 = 64              # none
            told 3 = 0
            set 2 127 = 0             # all seven
            told 3 = 127
            set 2 127 = 127
            """);
        Sentences.says(10, "becomes v: what it was", "one of the three alone", """
            set 0 20 = 14
            told 1 = 20
            told 2 = 3
            told 3 = 64
            set 1 19 = 3
            told 1 = 20
            told 2 = 19
            told 3 = 64
            set 2 18 = 64
            told 1 = 20
            told 2 = 19
            told 3 = 18
            """);
        Sentences.says(10, "OUTSIDE.", "what", """
            set -1 1 = OUTSIDE
            set 3 1 = OUTSIDE
            set -2147483648 1 = OUTSIDE
            set 2147483647 1 = OUTSIDE
            """);
    }

    private static void setShows() {
        Sentences.says(10, "1 PATIENCE (1 .. 20)", "the shortest and the longest", """
            set 1 1 = 3
            2 * copy 0 0
            hold 0 0 0 0 = 0
            copyOf 0 4 = 1
            set 1 20 = 1
            hold 1 0 0 0 = 1
            copyOf 1 4 = 20
            pass 1 = 1
            told 10 = 2
            pass 1 = 2
            told 10 = 1
            pass 18 = 20
            told 10 = 1
            pass 1 = 21
            told 10 = 0
            """);
        Sentences.says(10, "becomes v", "days that were told before stay", """
            copy 0 0 = 0
            copy 1 0 = 1
            copy 2 0 = 2
            lend 0 0 = 14
            hold 0 1 0 0 = 0
            hold 0 2 1 0 = 1
            set 0 3 = 14
            set 1 9 = 3
            set 2 1 = 64
            copyOf 0 4 = 14
            copyOf 1 4 = 3
            copyOf 2 4 = 1
            """);
    }

    private static void drift() {
        Sentences.says(11, "n times (1 .. 20) BY LOTS of a SEED (1 .. 999999): NOW.", """
            drift 1 1 = 1
            drift 20 9 = 10           # the last of the twenty is a DAY
            drift 19 9 = 18
            drift 1 999999 = 18
            told 0 = 18
            """);
        Sentences.says(11, "n times (1 .. 20) BY LOTS of a SEED (1 .. 999999): NOW.", "no DAY among them", """
            pass 3 = 3
            drift 20 386 = 3
            """);
        Sentences.says(11, "OUTSIDE.", "n", """
            drift 0 1 = OUTSIDE
            drift 21 1 = OUTSIDE
            drift -1 1 = OUTSIDE
            drift -2147483648 1 = OUTSIDE
            drift 2147483647 1 = OUTSIDE
            """);
        Sentences.says(11, "OUTSIDE.", "the SEED", """
            drift 1 0 = OUTSIDE
            drift 1 1000000 = OUTSIDE
            drift 1 -1 = OUTSIDE
            drift 1 -2147483648 = OUTSIDE
            drift 1 2147483647 = OUTSIDE
            """);
    }

    private static void undo() {
        Sentences.says(12, "The latest is undone: how many more can be.", """
            pass 1 = 1
            pass 2 = 3
            pass 3 = 6
            undo = 2
            told 0 = 3
            told 15 = 2
            undo = 1
            told 0 = 1
            pass 9 = 10               # a deed behind what was undone
            undo = 1
            told 0 = 1
            undo = 0
            told 0 = 0
            """);
        Sentences.says(12, "The latest is undone", "the number of a HOLD, too", """
            hold 0 0 0 0 = 0
            hold 1 0 0 0 = 1
            undo = 1
            holdOf 1 0 = UNKNOWN
            hold 2 0 0 0 = 1
            """);
        Sentences.says(12, "how many more can be", "eight, again and again", """
            20 * pass 1
            undo = 7
            undo = 6
            undo = 5
            undo = 4
            undo = 3
            undo = 2
            undo = 1
            undo = 0
            told 0 = 12
            5 * pass 1
            undo = 4
            4 * undo
            told 0 = 12
            undo = NOT
            """);
        Sentences.says(12, "NOT: none.", "a new object", """
            undo = NOT
            """);
        Sentences.says(12, "NOT: none.", "all are undone, or the oldest lost", """
            pass 1 = 1
            undo = 0
            undo = NOT
            9 * pass 1
            8 * undo
            undo = NOT
            told 0 = 1
            """);
        Sentences.says(12, "NOT: none.", "behind keep() and goBack()", """
            pass 1 = 1
            keep 0 = 1
            undo = NOT
            pass 1 = 2
            goBack 0 = 1
            undo = NOT
            told 0 = 1
            """);
        Sentences.says(12, "NOT: none.", "only refused calls so far", """
            copy 6 0 = UNKNOWN
            pass 0 = OUTSIDE
            set 0 0 = OUTSIDE
            drift 0 0 = OUTSIDE
            undo = NOT
            """);
    }

    /** With keep() behind the full house its own deeds are out of the way, so the twin has as many to undo: none. */
    private static void undoEachDeed() {
        String[] deeds = {"lend 7 0", "giveBack 0 3", "giveBack 4 3", "lose 7", "lose 0", "lose 5", "lose 6", "giveUp 0", "giveUp 1", "giveUp 11",
            "pass 1", "pass 30", "set 0 1", "set 1 1", "set 2 1", "drift 1 1", "drift 20 77", "drift 20 999999"};
        String before = SentencesOfRefusals.FULL_HOUSE + "1 * keep 1\n";
        for (String deed : deeds) {
            isUndone(before, deed);
        }
        for (String deed : new String[] {"copy 5 3", "hold 9 5 3 3"}) {
            isUndone("copy 5 0 = 0\nhold 1 1 1 1 = 0\nkeep 0 = 0\n", deed);
        }
        isUndone("copy 5 0 = 0\nlend 0 0 = 14\npass 3 = 3\nkeep 0 = 3\n", "renew 0");
    }

    private static void isUndone(String before, String deed) {
        String name = Sentences.says(12, "The latest is undone") + ", " + deed;
        LoanHouse house = new LoanHouse();
        LoanHouse twin = new LoanHouse();
        Script.run(name, house, before + "1 * " + deed + "\ntold 15 = 1\nundo = 0\n");
        Script.run(name, twin, before);
        Look.same(name, Look.at(house, 14), Look.at(twin, 14));
    }
}

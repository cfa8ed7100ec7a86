/** Promises 7 and 8: hold, giveUp. */
final class SentencesOfHolds {
    /** As many as there can be, all in THE ROW. */
    static final String TWELVE = """
        hold 0 0 0 0 = 0
        hold 1 0 0 0 = 1
        hold 2 0 0 0 = 2
        hold 3 0 0 0 = 3
        hold 4 0 0 0 = 4
        hold 5 0 0 0 = 5
        hold 6 0 0 0 = 6
        hold 7 0 0 0 = 7
        hold 8 0 0 0 = 8
        hold 9 0 0 0 = 9
        hold 0 1 0 0 = 10
        hold 1 1 0 0 = 11
        """;

    private SentencesOfHolds() {
    }

    static void all() {
        hold();
        holdUnknown();
        holdNot();
        holdFull();
        giveUp();
        giveUpUnknown();
    }

    private static void hold() {
        Sentences.says(7, "A HOLD (then SERVED): its number.", """
            copy 0 0 = 0
            hold 0 0 0 0 = 0
            holdOf 0 5 = 2            # READY at once
            hold 1 0 0 0 = 1
            holdOf 1 5 = 0
            """);
        Sentences.says(7, "OUTSIDE (NEED)", """
            hold 0 0 0 -1 = OUTSIDE
            hold 0 0 0 4 = OUTSIDE
            hold 0 0 0 -2147483648 = OUTSIDE
            hold 0 0 0 2147483647 = OUTSIDE
            hold 0 0 0 0 = 0
            hold 1 0 0 3 = 1
            """);
    }

    private static void holdUnknown() {
        Sentences.says(7, "UNKNOWN", "a READER that there is not", """
            hold -1 0 0 0 = UNKNOWN
            hold 10 0 0 0 = UNKNOWN
            hold -2147483648 0 0 0 = UNKNOWN
            hold 2147483647 0 0 0 = UNKNOWN
            """);
        Sentences.says(7, "UNKNOWN", "a TITLE that there is not", """
            hold 0 -1 0 0 = UNKNOWN
            hold 0 6 0 0 = UNKNOWN
            hold 0 -2147483648 0 0 = UNKNOWN
            hold 0 2147483647 0 0 = UNKNOWN
            """);
        Sentences.says(7, "UNKNOWN", "a BRANCH that there is not", """
            hold 0 0 -1 0 = UNKNOWN
            hold 0 0 4 0 = UNKNOWN
            hold 0 0 -2147483648 0 = UNKNOWN
            hold 0 0 2147483647 0 = UNKNOWN
            """);
    }

    private static void holdNot() {
        Sentences.says(7, "NOT: he has one", "that WAITS, is on the WAY, is READY", """
            hold 0 0 1 0 = 0
            hold 0 0 2 3 = NOT
            copy 0 0 = 0
            holdOf 0 5 = 1
            hold 0 0 2 3 = NOT
            pass 1 = 1
            holdOf 0 5 = 2
            hold 0 0 2 3 = NOT
            pass 4 = 5                # it has run out
            hold 0 0 2 3 = 1
            """);
        Sentences.says(7, "NOT: he has one", "another TITLE, another READER", """
            hold 0 0 0 0 = 0
            hold 0 1 0 0 = 1
            hold 1 0 0 0 = 2
            """);
        Sentences.says(7, "or has a COPY of it OUT", """
            copy 0 0 = 0
            copy 1 0 = 1
            lend 0 0 = 14
            lend 1 1 = 14
            hold 0 0 0 0 = NOT
            hold 1 0 0 0 = 0
            hold 0 1 0 0 = 1
            giveBack 0 0 = 0
            hold 0 0 0 0 = 2
            """);
        Sentences.says(7, "or has a COPY of it OUT", "a LOST one is not OUT", """
            copy 0 0 = 0
            lend 0 0 = 14
            lose 0 = 1
            hold 0 0 0 0 = 0
            """);
        Sentences.says(7, "or has a COPY of it OUT", "another COPY is IN", """
            2 * copy 0 0
            lend 0 0 = 14
            hold 0 0 0 0 = NOT
            told 5 = 2
            """);
    }

    private static void holdFull() {
        Sentences.says(7, "FULL (12).", "and room again when one is given up", TWELVE + """
            hold 2 1 0 0 = FULL
            told 10 = 12
            giveUp 11 = 11
            hold 2 1 0 0 = 12
            hold 1 1 0 0 = FULL
            holdOf 12 0 = 2
            holdOf 12 7 = 1
            """);
        Sentences.says(7, "FULL (12).", "READY ones and those on the WAY are some of them", TWELVE + """
            copy 0 0 = 0
            copy 0 1 = 1
            told 11 = 10
            hold 2 1 0 0 = FULL
            lend 0 0 = 14             # his HOLD is gone
            hold 2 1 0 0 = 12
            hold 3 1 0 0 = FULL
            """);
        Sentences.says(7, "FULL (12).", "and room again when one has run out", TWELVE + """
            copy 1 0 = 0
            pass 3 = 3
            hold 2 1 0 0 = FULL
            pass 1 = 4
            told 10 = 11
            hold 2 1 0 0 = 12
            hold 3 1 0 0 = FULL
            """);
        Sentences.says(7, "FULL (12).", "none of those that are gone comes back", TWELVE + """
            giveUp 0 = 11
            giveUp 11 = 10
            giveUp 5 = 9
            holdOf 0 0 = UNKNOWN
            holdOf 5 0 = UNKNOWN
            holdOf 11 0 = UNKNOWN
            holdOf 10 7 = 0
            holdOf 9 7 = 7
            titleOf 0 2 = 8
            titleOf 1 2 = 1
            """);
    }

    private static void giveUp() {
        Sentences.says(8, "A HOLD is given up (a COPY KEPT for it is IN", """
            copy 0 2 = 0
            hold 0 0 2 0 = 0
            giveUp 0 = 0
            copyOf 0 2 = 0
            copyOf 0 1 = 2
            copyOf 0 3 = NONE
            copyOf 0 4 = NONE
            holdOf 0 0 = UNKNOWN
            """);
        Sentences.says(8, "A HOLD is given up", "the last of twelve leaves nothing behind", TWELVE + """
            giveUp 11 = 11
            hold 2 2 0 3 = 12
            pass 5 = 5
            giveUp 12 = 11
            titleOf 2 2 = 0
            titleOf 2 3 = NONE
            titleOf 2 4 = 0
            readerOf 2 1 = 1
            copy 2 0 = 0
            told 5 = 1
            hold 1 1 0 3 = 13
            giveUp 13 = 11
            titleOf 1 3 = 10
            holdOf 10 7 = 0
            told 11 = 11
            """);
        Sentences.says(8, "one ON ITS WAY is IN where it goes to, at once", """
            copy 0 0 = 0
            hold 0 0 2 0 = 0
            pass 1 = 1
            copyOf 0 2 = 3
            giveUp 0 = 0
            copyOf 0 2 = 0
            copyOf 0 1 = 2
            copyOf 0 3 = NONE
            copyOf 0 4 = NONE
            """);
        Sentences.says(8, "then SERVED", """
            copy 0 0 = 0
            hold 0 0 1 0 = 0
            hold 1 0 1 0 = 1
            hold 2 0 0 3 = 2
            giveUp 0 = 2
            copyOf 0 3 = 2            # the first of the row, from 1 to 0
            copyOf 0 2 = 3
            copyOf 0 4 = 1
            giveUp 2 = 1
            copyOf 0 3 = 1            # from 0, where it would have gone to
            copyOf 0 1 = 1
            """);
        Sentences.says(8, "how many HOLDS are left.", TWELVE + """
            giveUp 3 = 11
            giveUp 0 = 10
            giveUp 11 = 9
            giveUp 1 = 8
            giveUp 2 = 7
            giveUp 4 = 6
            giveUp 5 = 5
            giveUp 6 = 4
            giveUp 7 = 3
            giveUp 8 = 2
            giveUp 9 = 1
            giveUp 10 = 0
            told 10 = 0
            """);
    }

    private static void giveUpUnknown() {
        Sentences.says(8, "UNKNOWN.", "never made", """
            giveUp 0 = UNKNOWN
            giveUp -1 = UNKNOWN
            hold 0 0 0 0 = 0
            giveUp -1 = UNKNOWN
            giveUp 1 = UNKNOWN
            giveUp -2147483648 = UNKNOWN
            giveUp 2147483647 = UNKNOWN
            """);
        Sentences.says(8, "UNKNOWN.", "given up, lent, run out", """
            hold 0 0 0 0 = 0
            giveUp 0 = 0
            giveUp 0 = UNKNOWN
            2 * copy 0 0
            hold 0 0 0 0 = 1
            lend 0 0 = 14
            giveUp 1 = UNKNOWN
            hold 1 0 0 0 = 2
            pass 4 = 4
            giveUp 2 = UNKNOWN
            """);
    }
}

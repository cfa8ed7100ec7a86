/** Promises 13 to 17: told, copyOf, holdOf, titleOf, readerOf. */
final class SentencesOfAsks {
    private SentencesOfAsks() {
    }

    static void all() {
        told();
        toldSets();
        toldCounts();
        copyOf();
        copyOfStates();
        holdOf();
        holdOfStates();
        titleOf();
        readerOf();
    }

    private static void told() {
        Sentences.says(13, "0 NOW", """
            told 0 = 0
            pass 30 = 30
            told 0 = 30
            """);
        Sentences.says(13, "1 TERM", """
            told 1 = 14
            set 0 60 = 14
            told 1 = 60
            """);
        Sentences.says(13, "2 PATIENCE", """
            told 2 = 3
            set 1 20 = 3
            told 2 = 20
            """);
        Sentences.says(13, "3 CLOSED ones", """
            told 3 = 64
            set 2 127 = 64
            told 3 = 127
            set 2 0 = 127
            told 3 = 0
            """);
        Sentences.says(13, "4 COPIES", """
            told 4 = 0
            copy 0 0 = 0
            told 4 = 1
            15 * copy 0 0
            told 4 = 16
            lose 0 = 0                # a LOST one is one
            told 4 = 16
            """);
        Sentences.says(13, "OUTSIDE.", """
            told -1 = OUTSIDE
            told 16 = OUTSIDE
            told -2147483648 = OUTSIDE
            told 2147483647 = OUTSIDE
            told 15 = 0
            """);
    }

    private static void toldSets() {
        Sentences.says(13, "5 IN", """
            told 5 = 0
            16 * copy 0 0
            told 5 = 65535
            lend 0 0 = 14
            lose 15 = 0
            told 5 = 32766
            """);
        Sentences.says(13, "6 OUT", """
            16 * copy 0 0
            told 6 = 0
            lend 0 0 = 14
            told 6 = 1
            lend 1 0 = 14
            lend 2 0 = 14
            lend 3 1 = 14
            lend 4 1 = 14
            lend 5 1 = 14
            lend 6 2 = 14
            lend 7 2 = 14
            lend 8 2 = 14
            lend 9 3 = 14
            lend 10 3 = 14
            lend 11 3 = 14
            lend 12 4 = 14
            lend 13 4 = 14
            lend 14 4 = 14
            lend 15 5 = 14
            told 6 = 65535
            told 5 = 0
            pass 15 = 15
            told 6 = 65535            # overdue ones are OUT, too
            """);
        Sentences.says(13, "7 KEPT", """
            10 * copy 0 0
            6 * copy 1 0
            told 7 = 0
            hold 0 0 0 0 = 0
            told 7 = 1
            hold 1 0 0 0 = 1
            hold 2 0 0 0 = 2
            hold 3 0 0 0 = 3
            hold 4 0 0 0 = 4
            hold 5 0 0 0 = 5
            hold 6 0 0 0 = 6
            hold 7 0 0 0 = 7
            hold 8 0 0 0 = 8
            hold 9 0 0 0 = 9
            hold 0 1 0 0 = 10
            hold 1 1 0 0 = 11
            told 7 = 4095
            told 8 = 0
            """);
        Sentences.says(13, "8 ON THEIR WAY", """
            14 * copy 0 0
            2 * copy 1 0
            told 8 = 0
            hold 0 1 1 0 = 0
            hold 1 1 2 0 = 1
            told 8 = 49152
            told 7 = 0
            hold 0 0 3 0 = 2
            told 8 = 49153
            pass 1 = 1
            told 8 = 32768
            told 7 = 16385
            """);
        Sentences.says(13, "9 LOST (5 to 9 SETS)", """
            copy 0 0 = 0
            told 9 = 0
            lose 0 = 0
            told 9 = 1
            15 * copy 0 0
            lose 15 = 0
            told 9 = 32769
            giveBack 0 0 = 0
            told 9 = 32768
            """);
        Sentences.says(13, "13 COPIES overdue (a SET)", """
            set 2 0 = 64
            16 * copy 0 0
            told 13 = 0
            lend 15 0 = 14
            lend 0 1 = 14
            lend 1 1 = 14
            lend 2 1 = 14
            pass 14 = 14
            told 13 = 0               # DUE today
            pass 1 = 15
            told 13 = 32775
            renew 1 = 29
            lose 2 = 1
            told 13 = 32769
            giveBack 0 0 = 1
            told 13 = 32768
            """);
    }

    private static void toldCounts() {
        Sentences.says(13, "10 HOLDS", """
            told 10 = 0
            hold 0 0 0 0 = 0
            hold 0 1 0 0 = 1
            told 10 = 2
            copy 0 0 = 0              # a READY one is one
            copy 1 1 = 1              # one on the WAY is one
            told 10 = 2
            lend 0 0 = 14
            told 10 = 1
            giveUp 1 = 0
            told 10 = 0
            """);
        Sentences.says(13, "11 those that WAIT (how many)", """
            told 11 = 0
            hold 0 0 0 0 = 0
            hold 0 1 0 0 = 1
            hold 0 2 0 0 = 2
            told 11 = 3
            copy 0 0 = 0              # READY
            told 11 = 2
            copy 1 1 = 1              # on the WAY
            told 11 = 1
            lose 0 = 2                # it WAITS again
            told 11 = 2
            """);
        Sentences.says(13, "12 TRIPS", """
            told 12 = 0
            copy 0 0 = 0
            hold 0 0 3 0 = 0
            told 12 = 1
            giveUp 0 = 0              # the COPY was put on its way all the same
            told 12 = 1
            undo = 2
            undo = 1                  # now it was not
            told 12 = 0
            """);
        Sentences.says(13, "14 1 NOW is CLOSED, 0 not", """
            told 14 = 0
            pass 6 = 6
            told 14 = 1
            pass 1 = 7
            told 14 = 0
            set 2 1 = 64
            told 14 = 1
            set 2 126 = 1
            told 14 = 0
            set 2 127 = 126
            told 14 = 1
            set 2 0 = 127
            told 14 = 0
            """);
        Sentences.says(13, "15 how many can be undone.", """
            told 15 = 0
            pass 1 = 1
            told 15 = 1
            7 * pass 1
            told 15 = 8
            pass 1 = 9
            told 15 = 8
            undo = 7
            told 15 = 7
            keep 0 = 8
            told 15 = 0
            pass 1 = 9
            goBack 0 = 8
            told 15 = 0
            """);
    }

    private static void copyOf() {
        Sentences.says(14, "Of a COPY: what = 0 TITLE", """
            copy 0 0 = 0
            copy 5 0 = 1
            copyOf 0 0 = 0
            copyOf 1 0 = 5
            lose 1 = 0
            copyOf 1 0 = 5
            """);
        Sentences.says(14, "UNKNOWN", "a COPY that there is not", """
            copyOf 0 0 = UNKNOWN
            copy 0 0 = 0
            copyOf -1 0 = UNKNOWN
            copyOf 1 0 = UNKNOWN
            15 * copy 0 0
            copyOf 15 0 = 0
            copyOf 16 0 = UNKNOWN
            copyOf -2147483648 0 = UNKNOWN
            copyOf 2147483647 0 = UNKNOWN
            """);
        Sentences.says(14, "OUTSIDE.", """
            copy 0 0 = 0
            copyOf 0 -1 = OUTSIDE
            copyOf 0 6 = OUTSIDE
            copyOf 0 -2147483648 = OUTSIDE
            copyOf 0 2147483647 = OUTSIDE
            copyOf 0 5 = NONE
            """);
    }

    private static void copyOfStates() {
        Sentences.says(14, "1 BRANCH (where it is, or goes to; where it was lent)", """
            copy 0 1 = 0
            copyOf 0 1 = 1
            hold 0 0 3 0 = 0
            copyOf 0 1 = 3            # it goes there
            pass 2 = 2
            copyOf 0 1 = 3
            lend 0 0 = 16
            copyOf 0 1 = 3            # where it was lent
            giveBack 0 2 = 0
            copyOf 0 1 = 2
            """);
        Sentences.says(14, "2 0 IN, 1 OUT, 2 KEPT, 3 ON ITS WAY, 4 LOST", """
            copy 0 0 = 0
            copyOf 0 2 = 0
            hold 0 0 1 0 = 0
            copyOf 0 2 = 3
            pass 1 = 1
            copyOf 0 2 = 2
            lend 0 0 = 15
            copyOf 0 2 = 1
            lose 0 = 1
            copyOf 0 2 = 4
            giveBack 0 0 = 0
            copyOf 0 2 = 0
            """);
        Sentences.says(14, "3 the READER (OUT) or the HOLD (KEPT, ON ITS WAY; else NONE)", """
            copy 0 0 = 0
            copyOf 0 3 = NONE
            hold 9 5 0 0 = 0
            hold 9 0 1 0 = 1
            copyOf 0 3 = 1            # the HOLD, not its READER
            pass 1 = 1
            copyOf 0 3 = 1
            lend 0 9 = 15
            copyOf 0 3 = 9
            lose 0 = 1
            copyOf 0 3 = NONE
            giveBack 0 0 = 0
            copyOf 0 3 = NONE
            """);
        Sentences.says(14, "4 the day (DUE, until, there; else NONE)", """
            copy 0 0 = 0
            copyOf 0 4 = NONE
            hold 9 0 2 0 = 0
            copyOf 0 4 = 2            # there
            pass 2 = 2
            copyOf 0 4 = 5            # until
            lend 0 9 = 16
            copyOf 0 4 = 16           # DUE
            lose 0 = 1
            copyOf 0 4 = NONE
            giveBack 0 0 = 0
            copyOf 0 4 = NONE
            """);
        Sentences.says(14, "5 STEP (NONE: it is not OUT)", """
            copy 0 0 = 0
            copyOf 0 5 = NONE
            hold 9 0 1 0 = 0
            copyOf 0 5 = NONE
            pass 1 = 1
            copyOf 0 5 = NONE
            lend 0 9 = 15
            copyOf 0 5 = 0
            pass 15 = 16
            copyOf 0 5 = 1
            lose 0 = 1
            copyOf 0 5 = NONE
            """);
    }

    private static void holdOf() {
        Sentences.says(15, "Of a HOLD (by its number): what = 0 READER, 1 TITLE, 2 BRANCH, 3 NEED, 4 the day it was made", """
            hold 1 1 1 1 = 0
            pass 30 = 30
            hold 9 5 3 2 = 1
            giveUp 0 = 1              # its number stays
            pass 1 = 31
            holdOf 1 0 = 9
            holdOf 1 1 = 5
            holdOf 1 2 = 3
            holdOf 1 3 = 2
            holdOf 1 4 = 30
            """);
        Sentences.says(15, "UNKNOWN", "a HOLD that there is not", """
            holdOf 0 0 = UNKNOWN
            holdOf -1 0 = UNKNOWN
            hold 0 0 0 0 = 0
            holdOf -1 0 = UNKNOWN
            holdOf 1 0 = UNKNOWN
            holdOf -2147483648 0 = UNKNOWN
            holdOf 2147483647 0 = UNKNOWN
            """);
        Sentences.says(15, "UNKNOWN", "one that is gone: lent, run out, given up", """
            2 * copy 0 0
            hold 0 0 0 0 = 0
            lend 0 0 = 14
            holdOf 0 0 = UNKNOWN
            hold 1 0 0 0 = 1
            pass 4 = 4
            holdOf 1 0 = UNKNOWN
            hold 1 1 0 0 = 2
            giveUp 2 = 0
            holdOf 2 0 = UNKNOWN
            """);
        Sentences.says(15, "OUTSIDE.", """
            hold 0 0 0 0 = 0
            holdOf 0 -1 = OUTSIDE
            holdOf 0 9 = OUTSIDE
            holdOf 0 -2147483648 = OUTSIDE
            holdOf 0 2147483647 = OUTSIDE
            holdOf 0 8 = NEVER
            """);
    }

    private static void holdOfStates() {
        Sentences.says(15, "5 0 it WAITS, 1 it is on the WAY, 2 READY", """
            hold 0 0 1 0 = 0
            holdOf 0 5 = 0
            copy 0 0 = 0
            holdOf 0 5 = 1
            pass 1 = 1
            holdOf 0 5 = 2
            """);
        Sentences.says(15, "6 its COPY (NONE)", """
            copy 5 0 = 0
            hold 0 0 1 0 = 0
            holdOf 0 6 = NONE
            copy 0 0 = 1
            holdOf 0 6 = 1
            pass 1 = 1
            holdOf 0 6 = 1
            lose 1 = 2
            holdOf 0 6 = NONE
            """);
        Sentences.says(15, "7 its place in THE ROW (NONE)", """
            hold 0 0 1 0 = 0
            hold 1 0 1 0 = 1
            holdOf 0 7 = 0
            holdOf 1 7 = 1
            hold 2 0 1 3 = 2          # ahead of both
            holdOf 2 7 = 0
            holdOf 0 7 = 1
            holdOf 1 7 = 2
            copy 0 0 = 0
            holdOf 2 7 = NONE         # on the WAY
            holdOf 0 7 = 0
            holdOf 1 7 = 1
            pass 1 = 1
            holdOf 2 7 = NONE         # READY
            """);
        Sentences.says(15, "7 its place in THE ROW (NONE)", "the twelfth", """
            hold 0 0 0 3 = 0
            hold 1 0 0 3 = 1
            hold 2 0 0 3 = 2
            hold 3 0 0 2 = 3
            hold 4 0 0 2 = 4
            hold 5 0 0 1 = 5
            hold 6 0 0 1 = 6
            hold 7 0 0 1 = 7
            hold 8 0 0 0 = 8
            hold 0 1 0 0 = 9
            hold 1 1 0 0 = 10
            hold 9 0 0 0 = 11
            holdOf 0 7 = 0
            holdOf 8 7 = 8
            holdOf 11 7 = 9
            holdOf 10 7 = 1
            """);
        Sentences.says(15, "8 SOON (READY: NOW; on the WAY: the day it is there).", """
            pass 3 = 3
            copy 0 0 = 0
            hold 0 0 2 0 = 0
            holdOf 0 8 = 5            # on the WAY
            pass 1 = 4
            holdOf 0 8 = 5
            pass 1 = 5
            holdOf 0 8 = 5            # READY
            pass 3 = 8
            holdOf 0 8 = 8
            """);
    }

    private static void titleOf() {
        Sentences.says(16, "Of a TITLE: what = 0 COPIES (a SET), 1 those IN (a SET)", """
            titleOf 0 0 = 0
            titleOf 0 1 = 0
            copy 0 0 = 0
            14 * copy 1 0
            copy 0 0 = 15
            titleOf 0 0 = 32769
            titleOf 0 1 = 32769
            titleOf 1 0 = 32766
            lend 0 0 = 14
            titleOf 0 1 = 32768
            lose 15 = 0
            titleOf 0 1 = 0
            titleOf 0 0 = 32769
            hold 0 1 0 0 = 0
            hold 1 1 1 0 = 1
            titleOf 1 1 = 32760
            titleOf 1 0 = 32766
            """);
        Sentences.says(16, "2 THE ROW (how many)", """
            titleOf 5 2 = 0
            hold 0 5 0 0 = 0
            hold 1 5 0 0 = 1
            hold 1 4 0 0 = 2
            titleOf 5 2 = 2
            titleOf 4 2 = 1
            copy 5 1 = 0              # one is on the WAY
            titleOf 5 2 = 1
            pass 1 = 1
            titleOf 5 2 = 1
            giveUp 1 = 2
            titleOf 5 2 = 0
            """);
        Sentences.says(16, "3 the first HOLD of it (NONE)", """
            titleOf 5 3 = NONE
            hold 0 5 0 0 = 0
            titleOf 5 3 = 0
            hold 1 5 0 1 = 1
            hold 2 5 0 1 = 2
            titleOf 5 3 = 1
            titleOf 4 3 = NONE
            copy 5 0 = 0
            titleOf 5 3 = 2
            giveUp 2 = 2
            titleOf 5 3 = 0
            giveUp 0 = 1              # a READY one is left
            titleOf 5 3 = NONE
            """);
        Sentences.says(16, "4 LONGEST WAIT (0).", """
            titleOf 5 4 = 0
            hold 0 5 0 0 = 0
            titleOf 5 4 = 0
            pass 30 = 30
            hold 1 5 0 3 = 1
            titleOf 5 4 = 30
            giveUp 0 = 1
            titleOf 5 4 = 0
            """);
        Sentences.says(16, "UNKNOWN", "a TITLE that there is not", """
            titleOf -1 0 = UNKNOWN
            titleOf 6 0 = UNKNOWN
            titleOf -2147483648 0 = UNKNOWN
            titleOf 2147483647 0 = UNKNOWN
            """);
        Sentences.says(16, "OUTSIDE.", """
            titleOf 0 -1 = OUTSIDE
            titleOf 0 5 = OUTSIDE
            titleOf 0 -2147483648 = OUTSIDE
            titleOf 0 2147483647 = OUTSIDE
            titleOf 0 4 = 0
            """);
    }

    private static void readerOf() {
        Sentences.says(17, "Of a READER: what = 0 COPIES OUT to him (a SET)", """
            readerOf 0 0 = 0
            16 * copy 0 0
            lend 0 0 = 14
            lend 1 1 = 14
            lend 15 0 = 14
            lend 8 0 = 14
            readerOf 0 0 = 33025
            readerOf 1 0 = 2
            lose 8 = 1
            readerOf 0 0 = 32769
            giveBack 15 0 = 0
            readerOf 0 0 = 1
            hold 2 0 0 0 = 0          # KEPT for hold 0 of another is not OUT to reader 0
            readerOf 0 0 = 1
            readerOf 2 0 = 0
            """);
        Sentences.says(17, "1 HOLDS (how many)", """
            readerOf 9 1 = 0
            hold 9 0 0 0 = 0
            hold 9 1 0 0 = 1
            hold 9 2 0 0 = 2
            hold 9 3 0 0 = 3
            hold 9 4 0 0 = 4
            hold 9 5 0 0 = 5
            hold 8 5 0 0 = 6
            readerOf 9 1 = 6
            copy 0 0 = 0              # READY ones and those on the WAY are some of them
            copy 1 1 = 1
            readerOf 9 1 = 6
            lend 0 9 = 14
            readerOf 9 1 = 5
            giveUp 5 = 5
            readerOf 9 1 = 4
            readerOf 8 1 = 1
            """);
        Sentences.says(17, "2 OWED", """
            set 2 0 = 64
            copy 0 0 = 0
            lend 0 9 = 14
            pass 14 = 14
            readerOf 9 2 = 0
            pass 1 = 15
            readerOf 9 2 = 5
            readerOf 0 2 = 0
            renew 0 = 29
            readerOf 9 2 = 0
            """);
        Sentences.says(17, "3 the greatest STEP", """
            set 2 0 = 64
            readerOf 9 3 = 0          # nothing is OUT
            3 * copy 0 0
            set 0 1 = 14
            lend 1 9 = 1
            set 0 10 = 1
            lend 0 9 = 10
            lend 2 8 = 10
            readerOf 9 3 = 0
            pass 12 = 12
            readerOf 9 3 = 2          # 2 and 1
            readerOf 8 3 = 1
            readerOf 7 3 = 0
            pass 30 = 42
            readerOf 9 3 = 4
            giveBack 1 0 = 4
            giveBack 0 0 = 4
            readerOf 9 3 = 0
            """);
        Sentences.says(17, "4 the BRANCH.", """
            readerOf 0 4 = 0
            readerOf 3 4 = 3
            readerOf 4 4 = 0
            readerOf 9 4 = 1
            """);
        Sentences.says(17, "UNKNOWN", "a READER that there is not", """
            readerOf -1 0 = UNKNOWN
            readerOf 10 0 = UNKNOWN
            readerOf -2147483648 0 = UNKNOWN
            readerOf 2147483647 0 = UNKNOWN
            """);
        Sentences.says(17, "OUTSIDE.", """
            readerOf 0 -1 = OUTSIDE
            readerOf 0 5 = OUTSIDE
            readerOf 0 -2147483648 = OUTSIDE
            readerOf 0 2147483647 = OUTSIDE
            readerOf 1 4 = 1
            """);
    }
}

/** Promises 1 to 6: a new object, copy, lend, giveBack, renew, lose. */
final class SentencesOfCopies {
    private SentencesOfCopies() {
    }

    static void all() {
        newObject();
        copy();
        lend();
        lendRefused();
        giveBack();
        giveBackRefused();
        renew();
        lose();
    }

    private static void newObject() {
        Sentences.says(1, "DAY 0, no COPIES.", """
            told 0 = 0
            told 4 = 0
            told 5 = 0
            told 6 = 0
            told 7 = 0
            told 8 = 0
            told 9 = 0
            told 10 = 0
            told 11 = 0
            told 12 = 0
            told 13 = 0
            told 14 = 0
            told 15 = 0
            """);
        LoanHouse one = new LoanHouse();
        LoanHouse other = new LoanHouse();
        Script.run("promise 1, one of two new objects", one, """
            copy 0 0 = 0
            hold 0 0 1 0 = 0
            pass 3 = 3
            keep 0 = 3
            pass 1 = 4
            """);
        Script.run(Sentences.says(1, "DAY 0, no COPIES.") + ", whatever another object has", other, """
            told 0 = 0
            told 4 = 0
            told 10 = 0
            told 15 = 0
            goBack 0 = NOT
            """);
    }

    private static void copy() {
        Sentences.says(2, "A COPY of a TITLE, IN at a BRANCH (then SERVED): its number.", "the least and the greatest", """
            copy 0 0 = 0
            copyOf 0 0 = 0
            copyOf 0 1 = 0
            copyOf 0 2 = 0
            copy 5 3 = 1
            copyOf 1 0 = 5
            copyOf 1 1 = 3
            copyOf 1 2 = 0
            """);
        Sentences.says(2, "(then SERVED)", """
            hold 0 0 3 0 = 0
            hold 1 0 0 1 = 1
            copy 1 0 = 0
            told 11 = 2
            copy 0 0 = 1
            copyOf 1 2 = 2            # KEPT at once, for the first of the row
            copyOf 1 3 = 1
            copy 0 0 = 2
            copyOf 2 2 = 3            # ON ITS WAY at once
            copyOf 2 3 = 0
            """);
        Sentences.says(2, "UNKNOWN", "a TITLE that there is not", """
            copy -1 0 = UNKNOWN
            copy 6 0 = UNKNOWN
            copy -2147483648 0 = UNKNOWN
            copy 2147483647 0 = UNKNOWN
            """);
        Sentences.says(2, "UNKNOWN", "a BRANCH that there is not", """
            copy 0 -1 = UNKNOWN
            copy 0 4 = UNKNOWN
            copy 0 -2147483648 = UNKNOWN
            copy 0 2147483647 = UNKNOWN
            """);
        Sentences.says(2, "FULL (16).", """
            14 * copy 0 0
            copy 0 0 = 14
            copy 0 0 = 15
            copy 0 0 = FULL
            lose 0 = 0                # a LOST one is one of the 16
            copy 0 0 = FULL
            undo = 7
            undo = 6                  # without the last there is room for one
            copy 1 1 = 15
            copy 1 1 = FULL
            """);
    }

    private static void lend() {
        Sentences.says(3, "A COPY is LENT: DUE.", "the shortest and the longest TERM", """
            2 * copy 0 0
            set 0 1 = 14
            lend 0 0 = 1
            copyOf 0 4 = 1
            set 0 60 = 1
            lend 1 0 = 60
            copyOf 1 4 = 60
            """);
        Sentences.says(3, "A COPY is LENT: DUE.", "on the last day", """
            333 * pass 30
            pass 9 = 9999
            set 2 0 = 64
            set 0 60 = 14
            copy 0 0 = 0
            lend 0 0 = 10059
            """);
    }

    private static void lendRefused() {
        Sentences.says(3, "UNKNOWN", "a COPY that there is not", """
            lend 0 0 = UNKNOWN
            copy 0 0 = 0
            lend -1 0 = UNKNOWN
            lend 1 0 = UNKNOWN
            lend 16 0 = UNKNOWN
            lend -2147483648 0 = UNKNOWN
            lend 2147483647 0 = UNKNOWN
            """);
        Sentences.says(3, "UNKNOWN", "a READER that there is not", """
            copy 0 0 = 0
            lend 0 -1 = UNKNOWN
            lend 0 10 = UNKNOWN
            lend 0 -2147483648 = UNKNOWN
            lend 0 2147483647 = UNKNOWN
            """);
        Sentences.says(3, "NOT: it is neither IN nor KEPT for him", "OUT", """
            copy 0 0 = 0
            lend 0 0 = 14
            lend 0 0 = NOT
            lend 0 1 = NOT
            """);
        Sentences.says(3, "NOT: it is neither IN nor KEPT for him", "KEPT for another", """
            copy 0 0 = 0
            hold 1 0 0 0 = 0
            hold 2 0 0 0 = 1          # he is in the row, but it is not for him
            lend 0 0 = NOT            # 0 is the number of the HOLD, not of its READER
            lend 0 2 = NOT
            lend 0 1 = 14
            """);
        Sentences.says(3, "NOT: it is neither IN nor KEPT for him", "ON ITS WAY", """
            copy 0 0 = 0
            hold 1 0 1 0 = 0
            lend 0 0 = NOT
            lend 0 1 = NOT            # it is for him, but not KEPT yet
            pass 1 = 1
            lend 0 1 = 15
            """);
        Sentences.says(3, "NOT: it is neither IN nor KEPT for him", "LOST", """
            copy 0 0 = 0
            lose 0 = 0
            lend 0 0 = NOT
            """);
        Sentences.says(3, "3 are OUT to him.", "one that is IN", """
            4 * copy 0 0
            lend 0 9 = 14
            lend 1 9 = 14
            lend 2 9 = 14
            lend 3 9 = NOT
            lend 3 8 = 14
            """);
        Sentences.says(3, "3 are OUT to him.", "one KEPT for him", """
            4 * copy 0 0
            hold 9 0 0 0 = 0
            lend 1 9 = 14
            lend 2 9 = 14
            lend 3 9 = 14
            lend 0 9 = NOT
            holdOf 0 5 = 2            # his HOLD stays
            giveBack 3 0 = 0
            lend 0 9 = 14
            """);
        Sentences.says(3, "3 are OUT to him.", "a LOST one is not OUT", """
            4 * copy 0 0
            lend 0 9 = 14
            lend 1 9 = 14
            lend 2 9 = 14
            lose 1 = 1
            lend 3 9 = 14
            """);
    }

    private static void giveBack() {
        Sentences.says(4, "GIVEN BACK (then SERVED): its STEP (0: it was LOST).", "SERVED", """
            copy 0 0 = 0
            lend 0 0 = 14
            hold 1 0 2 0 = 0
            giveBack 0 3 = 0
            copyOf 0 2 = 3            # from 3, where it was given back, to 2
            copyOf 0 1 = 2
            copyOf 0 4 = 1
            """);
        Sentences.says(4, "its STEP", "each of them", """
            set 2 0 = 64
            8 * copy 0 0
            lend 0 0 = 14
            lend 1 0 = 14
            lend 2 0 = 14
            lend 3 1 = 14
            lend 4 1 = 14
            lend 5 1 = 14
            lend 6 2 = 14
            lend 7 2 = 14
            pass 14 = 14
            giveBack 0 0 = 0
            pass 1 = 15
            giveBack 1 0 = 1
            pass 6 = 21
            giveBack 2 0 = 1
            pass 1 = 22
            giveBack 3 0 = 2
            pass 7 = 29
            giveBack 4 0 = 3
            pass 6 = 35
            giveBack 5 0 = 3
            pass 1 = 36
            giveBack 6 0 = 4
            pass 30 = 66
            giveBack 7 0 = 4
            """);
        Sentences.says(4, "(0: it was LOST)", """
            copy 0 0 = 0
            lend 0 0 = 14
            pass 30 = 30
            copyOf 0 5 = 3
            lose 0 = 1
            giveBack 0 1 = 0
            copyOf 0 1 = 1
            """);
        Sentences.says(4, "(0: it was LOST)", "then SERVED", """
            copy 0 0 = 0
            hold 1 0 0 0 = 0
            lose 0 = 2
            holdOf 0 5 = 0
            giveBack 0 0 = 0
            holdOf 0 5 = 2
            """);
    }

    private static void giveBackRefused() {
        Sentences.says(4, "UNKNOWN", "a COPY that there is not", """
            giveBack 0 0 = UNKNOWN
            copy 0 0 = 0
            giveBack -1 0 = UNKNOWN
            giveBack 1 0 = UNKNOWN
            giveBack 16 0 = UNKNOWN
            giveBack -2147483648 0 = UNKNOWN
            giveBack 2147483647 0 = UNKNOWN
            """);
        Sentences.says(4, "UNKNOWN", "a BRANCH that there is not", """
            copy 0 0 = 0
            lend 0 0 = 14
            giveBack 0 -1 = UNKNOWN
            giveBack 0 4 = UNKNOWN
            giveBack 0 -2147483648 = UNKNOWN
            giveBack 0 2147483647 = UNKNOWN
            """);
        Sentences.says(4, "NOT: it is neither OUT nor LOST.", "IN", """
            copy 0 0 = 0
            giveBack 0 0 = NOT
            """);
        Sentences.says(4, "NOT: it is neither OUT nor LOST.", "KEPT", """
            copy 0 0 = 0
            hold 0 0 0 0 = 0
            giveBack 0 0 = NOT
            """);
        Sentences.says(4, "NOT: it is neither OUT nor LOST.", "ON ITS WAY", """
            copy 0 0 = 0
            hold 0 0 1 0 = 0
            giveBack 0 0 = NOT
            giveBack 0 1 = NOT
            """);
    }

    private static void renew() {
        Sentences.says(5, "RENEWED: DUE.", "before, on and long after the day it was due", """
            copy 0 0 = 0
            lend 0 0 = 14
            renew 0 = 14
            pass 14 = 14
            renew 0 = 28
            copyOf 0 4 = 28
            pass 30 = 44
            copyOf 0 5 = 3
            renew 0 = 58
            copyOf 0 5 = 0
            set 0 1 = 14
            renew 0 = 45              # the day may come nearer
            """);
        Sentences.says(5, "UNKNOWN", "a COPY that there is not", """
            renew 0 = UNKNOWN
            copy 0 0 = 0
            lend 0 0 = 14
            renew -1 = UNKNOWN
            renew 1 = UNKNOWN
            renew 16 = UNKNOWN
            renew -2147483648 = UNKNOWN
            renew 2147483647 = UNKNOWN
            """);
        Sentences.says(5, "NOT: it is not OUT", "IN, KEPT, ON ITS WAY, LOST", """
            copy 0 0 = 0
            copy 1 0 = 1
            copy 2 0 = 2
            copy 3 0 = 3
            hold 0 1 0 0 = 0
            hold 0 2 1 0 = 1
            lose 3 = 0
            renew 0 = NOT
            renew 1 = NOT
            renew 2 = NOT
            renew 3 = NOT
            """);
        Sentences.says(5, "somebody is in THE ROW.", """
            2 * copy 0 0
            copy 1 0 = 2
            lend 0 0 = 14
            hold 1 1 0 0 = 0
            hold 2 1 0 0 = 1          # the row of another TITLE
            renew 0 = 14
            hold 1 0 0 0 = 2          # READY: not in the row
            renew 0 = 14
            hold 2 0 0 0 = 3          # the row of this one
            renew 0 = NOT
            giveUp 3 = 3
            renew 0 = 14
            """);
        Sentences.says(5, "somebody is in THE ROW.", "one on the WAY is not", """
            2 * copy 0 0
            lend 0 0 = 14
            hold 1 0 1 0 = 0
            renew 0 = 14
            """);
    }

    private static void lose() {
        Sentences.says(6, "A COPY is LOST: what it was (0 IN, 1 OUT, 2 KEPT, 3 ON ITS WAY; a HOLD for which it was WAITS again, then all are SERVED).", """
            copy 0 0 = 0
            copy 1 0 = 1
            copy 2 0 = 2
            copy 3 0 = 3
            lend 1 0 = 14
            hold 0 2 0 0 = 0
            hold 0 3 1 0 = 1
            lose 0 = 0
            lose 1 = 1
            lose 2 = 2
            lose 3 = 3
            told 9 = 15
            told 10 = 2
            told 11 = 2
            holdOf 0 6 = NONE
            holdOf 1 6 = NONE
            holdOf 1 7 = 0
            readerOf 0 0 = 0
            """);
        Sentences.says(6, "a HOLD for which it was WAITS again, then all are SERVED", """
            copy 0 0 = 0
            copy 0 2 = 1
            hold 0 0 0 0 = 0
            holdOf 0 6 = 0
            pass 1 = 1
            lose 0 = 2
            holdOf 0 6 = 1            # the other, from 2
            holdOf 0 5 = 1
            holdOf 0 4 = 0
            copyOf 1 4 = 3
            lose 1 = 3
            holdOf 0 5 = 0
            """);
        Sentences.says(6, "a HOLD for which it was WAITS again", "not one that bears its READER's number", """
            copy 0 0 = 0
            copy 1 0 = 1
            hold 5 1 0 0 = 0
            lend 0 0 = 14
            lose 0 = 1
            holdOf 0 5 = 2
            holdOf 0 6 = 1
            copyOf 1 2 = 2
            """);
        Sentences.says(6, "UNKNOWN", "a COPY that there is not", """
            lose 0 = UNKNOWN
            copy 0 0 = 0
            lose -1 = UNKNOWN
            lose 1 = UNKNOWN
            lose 16 = UNKNOWN
            lose -2147483648 = UNKNOWN
            lose 2147483647 = UNKNOWN
            """);
        Sentences.says(6, "NOT: it is.", """
            copy 0 0 = 0
            lose 0 = 0
            lose 0 = NOT
            giveBack 0 0 = 0
            lose 0 = 0
            """);
    }
}

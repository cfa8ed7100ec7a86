/** Promises 13 to 17: told, copyOf, holdOf, titleOf, readerOf. */
public final class AsksTest {
    public static void main(String[] args) {
        told();
        ofCopies();
        ofHolds();
        ofTitles();
        ofReaders();
        Script.end();
    }

    private static void told() {
        Script.run("promise 13, sets of copies", """
            copy 0 0 = 0
            copy 1 1 = 1
            copy 2 2 = 2
            copy 3 3 = 3
            copy 4 0 = 4
            copy 5 0 = 5
            lend 1 1 = 14
            hold 2 2 2 0 = 0
            hold 3 3 1 0 = 1
            hold 4 0 0 0 = 2
            lose 4 = 0
            hold 4 4 0 0 = 3
            told 4 = 6
            told 5 = 32
            told 6 = 2
            told 7 = 5
            told 8 = 8
            told 9 = 16
            told 10 = 4
            told 11 = 1
            told 12 = 1
            told 13 = 0
            told 15 = 8
            """);
        Script.run("promise 13, trips are pairs, from and to, of today", """
            copy 0 0 = 0
            copy 1 0 = 1
            copy 2 1 = 2
            copy 3 0 = 3
            hold 0 0 1 0 = 0
            told 12 = 1
            hold 0 1 1 0 = 1          # the same pair
            told 12 = 1
            hold 0 2 0 0 = 2          # the other way round
            told 12 = 2
            hold 0 3 0 0 = 3          # way 0 is none
            told 12 = 2
            lose 0 = 3                # it was put on its way all the same
            told 12 = 2
            pass 1 = 1
            told 12 = 0
            told 8 = 0
            """);
        Script.run("promise 13, overdue and closed", """
            set 2 0 = 64
            set 0 1 = 14
            copy 0 0 = 0
            copy 0 0 = 1
            lend 1 3 = 1
            pass 1 = 1
            told 13 = 0
            pass 1 = 2
            told 13 = 2
            lose 1 = 1
            told 13 = 0
            told 14 = 0
            set 2 4 = 0
            told 14 = 1
            set 2 123 = 4
            told 14 = 0
            pass 7 = 9
            told 14 = 0
            pass 1 = 10
            told 14 = 1
            """);
    }

    private static void ofCopies() {
        Script.run("promise 14, each state", """
            copy 3 1 = 0
            copyOf 0 0 = 3
            copyOf 0 1 = 1
            copyOf 0 2 = 0
            copyOf 0 3 = NONE
            copyOf 0 4 = NONE
            copyOf 0 5 = NONE
            hold 7 3 3 0 = 0
            copyOf 0 1 = 3            # it goes there
            copyOf 0 2 = 3
            copyOf 0 3 = 0
            copyOf 0 4 = 2
            copyOf 0 5 = NONE
            pass 2 = 2
            copyOf 0 1 = 3
            copyOf 0 2 = 2
            copyOf 0 3 = 0
            copyOf 0 4 = 5
            copyOf 0 5 = NONE
            lend 0 7 = 16
            copyOf 0 0 = 3
            copyOf 0 1 = 3            # where it was lent
            copyOf 0 2 = 1
            copyOf 0 3 = 7
            copyOf 0 4 = 16
            copyOf 0 5 = 0
            lose 0 = 1
            copyOf 0 0 = 3
            copyOf 0 1 = 3
            copyOf 0 2 = 4
            copyOf 0 3 = NONE
            copyOf 0 4 = NONE
            copyOf 0 5 = NONE
            """);
        Script.run("promise 14, steps", """
            copy 0 0 = 0
            lend 0 0 = 14
            pass 14 = 14
            copyOf 0 5 = 0
            pass 1 = 15
            copyOf 0 5 = 1
            pass 6 = 21
            copyOf 0 5 = 1
            pass 1 = 22
            copyOf 0 5 = 2
            pass 6 = 28
            copyOf 0 5 = 2
            pass 1 = 29
            copyOf 0 5 = 3
            pass 6 = 35
            copyOf 0 5 = 3
            pass 1 = 36
            copyOf 0 5 = 4
            pass 7 = 43
            copyOf 0 5 = 4
            """);
    }

    private static void ofHolds() {
        Script.run("promise 15, each state", """
            pass 1 = 1
            hold 9 4 2 3 = 0
            holdOf 0 0 = 9
            holdOf 0 1 = 4
            holdOf 0 2 = 2
            holdOf 0 3 = 3
            holdOf 0 4 = 1
            holdOf 0 5 = 0
            holdOf 0 6 = NONE
            holdOf 0 7 = 0
            holdOf 0 8 = NEVER
            pass 1 = 2
            copy 0 0 = 0
            copy 4 0 = 1
            holdOf 0 5 = 1
            holdOf 0 6 = 1
            holdOf 0 7 = NONE
            holdOf 0 8 = 4
            pass 2 = 4
            holdOf 0 5 = 2
            holdOf 0 6 = 1
            holdOf 0 7 = NONE
            holdOf 0 8 = 4
            pass 1 = 5
            holdOf 0 8 = 5
            holdOf 0 4 = 1
            """);
        Script.run("promise 15, the row is by need, then by number", """
            hold 0 0 0 1 = 0
            hold 1 0 0 3 = 1
            hold 2 0 0 1 = 2
            hold 3 1 0 3 = 3
            hold 4 0 0 3 = 4
            hold 5 0 0 0 = 5
            holdOf 1 7 = 0
            holdOf 4 7 = 1
            holdOf 0 7 = 2
            holdOf 2 7 = 3
            holdOf 5 7 = 4
            holdOf 3 7 = 0
            """);
        Script.run("promise 15, soon: the days in order", """
            set 2 0 = 64
            copy 0 0 = 0
            copy 0 0 = 1
            copy 0 0 = 2
            copy 0 0 = 3
            copy 0 0 = 4
            copy 1 0 = 5              # another title
            set 0 30 = 14
            lend 0 0 = 30
            set 0 10 = 30
            lend 1 1 = 10
            hold 2 0 0 0 = 0          # copy 2 is kept until 3
            hold 3 0 1 0 = 1          # copy 3 is on its way
            lose 4 = 0
            hold 4 0 0 0 = 2
            hold 5 0 0 0 = 3
            hold 6 0 0 0 = 4
            hold 7 0 0 0 = 5
            holdOf 2 8 = 4
            holdOf 3 8 = 10
            holdOf 4 8 = 30
            holdOf 5 8 = NEVER
            holdOf 0 8 = 0
            holdOf 1 8 = 1
            pass 1 = 1                # copy 3 is kept until 4
            holdOf 2 8 = 4
            holdOf 3 8 = 5
            holdOf 4 8 = 10
            holdOf 5 8 = 30
            """);
        Script.run("promise 15, soon: a copy due by now", """
            set 2 0 = 64
            set 0 5 = 14
            copy 0 0 = 0
            lend 0 0 = 5
            hold 1 0 0 0 = 0
            holdOf 0 8 = 5
            pass 4 = 4
            holdOf 0 8 = 5
            pass 1 = 5
            holdOf 0 8 = 6
            pass 1 = 6
            holdOf 0 8 = 7
            pass 30 = 36
            holdOf 0 8 = 37
            """);
        Script.run("promise 15, soon: two on one day", """
            copy 0 0 = 0
            copy 0 0 = 1
            lend 0 0 = 14
            lend 1 1 = 14
            hold 2 0 0 0 = 0
            hold 3 0 0 0 = 1
            hold 4 0 0 0 = 2
            holdOf 0 8 = 14
            holdOf 1 8 = 14
            holdOf 2 8 = NEVER
            """);
    }

    private static void ofTitles() {
        Script.run("promise 16, copies and the row", """
            copy 5 0 = 0
            copy 4 0 = 1
            copy 5 0 = 2
            copy 5 0 = 3
            lend 0 0 = 14
            lose 2 = 0
            titleOf 5 0 = 13
            titleOf 5 1 = 8
            titleOf 4 0 = 2
            titleOf 3 0 = 0
            titleOf 3 1 = 0
            titleOf 5 2 = 0
            titleOf 5 3 = NONE
            titleOf 5 4 = 0
            pass 2 = 2
            hold 1 5 0 0 = 0          # ready: not in the row
            titleOf 5 1 = 0
            titleOf 5 2 = 0
            titleOf 5 3 = NONE
            hold 2 5 0 1 = 1
            pass 1 = 3
            hold 3 5 0 2 = 2
            hold 4 5 0 2 = 3
            titleOf 5 2 = 3
            titleOf 5 3 = 2
            titleOf 5 4 = 1
            pass 1 = 4
            titleOf 5 4 = 2
            titleOf 4 2 = 0
            titleOf 4 4 = 0
            """);
        Script.run("promise 16, the row of one", """
            hold 0 0 0 0 = 0
            titleOf 0 2 = 1
            titleOf 0 3 = 0
            giveUp 0 = 0
            titleOf 0 2 = 0
            titleOf 0 3 = NONE
            """);
        Script.run("promise 16, one that is ready waits no longer", """
            hold 0 2 0 0 = 0
            pass 4 = 4
            hold 1 2 0 0 = 1
            titleOf 2 4 = 4
            titleOf 2 3 = 0
            copy 2 0 = 0
            titleOf 2 4 = 0
            titleOf 2 3 = 1
            titleOf 2 2 = 1
            pass 1 = 5
            titleOf 2 4 = 1
            lose 0 = 2
            titleOf 2 4 = 5
            """);
    }

    private static void ofReaders() {
        Script.run("promise 17, out, holds, owed, step", """
            set 2 0 = 64
            copy 0 0 = 0
            copy 1 0 = 1
            copy 2 0 = 2
            copy 3 0 = 3
            lend 1 8 = 14
            set 0 20 = 14
            lend 3 8 = 20
            lend 2 7 = 20
            hold 8 0 0 0 = 0
            hold 8 2 0 0 = 1
            hold 7 1 0 0 = 2
            readerOf 8 0 = 10
            readerOf 7 0 = 4
            readerOf 6 0 = 0
            readerOf 8 1 = 2
            readerOf 7 1 = 1
            readerOf 6 1 = 0
            readerOf 8 2 = 0
            readerOf 8 3 = 0
            pass 16 = 16
            readerOf 8 2 = 10         # the other is not due and takes nothing off
            readerOf 8 3 = 1
            pass 7 = 23
            readerOf 8 2 = 60         # 5 times 9 and 5 times 3
            readerOf 8 3 = 2
            readerOf 7 2 = 15
            readerOf 7 3 = 1
            readerOf 6 2 = 0
            readerOf 6 3 = 0
            lose 1 = 1
            readerOf 8 0 = 8
            readerOf 8 2 = 15
            readerOf 8 3 = 1
            """);
        Script.run("promise 13 and 17, the first copy counts, too", """
            copy 0 0 = 0
            lend 0 0 = 14
            pass 16 = 16
            told 13 = 1
            readerOf 0 0 = 1
            readerOf 0 2 = 10
            readerOf 0 3 = 1
            """);
        Script.run("promise 17, the branch", """
            readerOf 0 4 = 0
            readerOf 3 4 = 3
            readerOf 4 4 = 0
            readerOf 9 4 = 1
            """);
        Script.run("promise 17, a hold's number is not a reader's", """
            copy 0 0 = 0
            hold 5 0 0 0 = 0
            readerOf 0 0 = 0
            readerOf 5 0 = 0
            """);
    }
}

/** Promise 12: undo. */
public final class UndoTest {
    public static void main(String[] args) {
        Script.run("promise 12, every deed is undone", """
            undo = NOT
            copy 0 0 = 0
            lend 0 1 = 14
            hold 2 0 1 0 = 0
            giveBack 0 0 = 0
            lose 0 = 3
            giveUp 0 = 0
            pass 3 = 3
            set 0 9 = 14
            told 15 = 8
            undo = 7
            told 1 = 14
            undo = 6
            told 0 = 0
            undo = 5
            holdOf 0 5 = 0
            told 10 = 1
            undo = 4
            holdOf 0 5 = 1
            copyOf 0 2 = 3
            told 12 = 1
            undo = 3
            told 12 = 0
            copyOf 0 2 = 1
            copyOf 0 3 = 1
            copyOf 0 4 = 14
            holdOf 0 5 = 0
            undo = 2
            told 10 = 0
            undo = 1
            copyOf 0 2 = 0
            undo = 0
            told 4 = 0
            undo = NOT
            """);
        Script.run("promise 12, renew and drift", """
            copy 0 0 = 0
            lend 0 1 = 14
            pass 2 = 2
            renew 0 = 16
            undo = 3
            copyOf 0 4 = 14
            drift 20 77 = 9
            undo = 3
            told 0 = 2
            told 10 = 0
            copyOf 0 4 = 14
            """);
        Script.run("promise 12, eight at most, the oldest are lost", """
            pass 1 = 1
            pass 2 = 3
            8 * pass 1
            told 0 = 11
            told 15 = 8
            undo = 7
            told 0 = 10
            7 * undo
            told 0 = 3
            told 15 = 0
            undo = NOT
            told 0 = 3
            pass 5 = 8
            undo = 0
            told 0 = 3
            """);
        Script.run("promise 12, what is refused or asked is no deed", """
            pass 1 = 1
            pass 2 = 3
            pass 99 = OUTSIDE
            copy 9 9 = UNKNOWN
            lend 0 0 = UNKNOWN
            set 0 0 = OUTSIDE
            giveUp 0 = UNKNOWN
            told 0 = 3
            readerOf 0 0 = 0
            titleOf 0 0 = 0
            undo = 1
            told 0 = 1
            """);
        Script.run("promise 12, a number of a hold comes back with its deed", """
            hold 0 0 0 0 = 0
            undo = 0
            holdOf 0 0 = UNKNOWN
            hold 1 0 0 0 = 0
            """);
        Script.run("promise 12, deeds and undoing by turns", """
            10 * pass 1
            undo = 7
            undo = 6
            pass 3 = 11
            pass 4 = 15
            told 15 = 8
            undo = 7
            told 0 = 11
            undo = 6
            told 0 = 8
            6 * undo
            told 0 = 2
            undo = NOT
            """);
        Script.end();
    }
}

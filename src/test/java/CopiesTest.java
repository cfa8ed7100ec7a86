/** Promises 2 to 6: copy, lend, giveBack, renew, lose. */
public final class CopiesTest {
    public static void main(String[] args) {
        copies();
        lending();
        givingBack();
        renewing();
        losing();
        Script.end();
    }

    private static void copies() {
        Script.run("promise 2, numbers from 0 on", """
            copy 0 0 = 0
            copy 5 3 = 1
            copyOf 1 0 = 5
            copyOf 1 1 = 3
            copyOf 1 2 = 0
            copyOf 1 3 = NONE
            copyOf 1 4 = NONE
            told 4 = 2
            """);
        Script.run("promise 2, a new copy serves the row", """
            hold 3 2 1 0 = 0
            holdOf 0 5 = 0
            copy 1 1 = 0      # another title
            holdOf 0 5 = 0
            copy 2 1 = 1
            copyOf 1 2 = 2
            copyOf 1 3 = 0
            copyOf 1 4 = 3
            holdOf 0 5 = 2
            """);
    }

    private static void lending() {
        Script.run("promise 3, due days are open ones", """
            2 * copy 0 0
            4 * copy 1 0
            lend 0 1 = 14     # 14 by 7 is 0
            set 0 13 = 14
            lend 1 2 = 14     # 13 by 7 is 6: closed
            set 2 65 = 64     # 0 and 6 are closed
            lend 2 3 = 15
            set 2 127 = 65    # all closed: that day
            lend 3 4 = 13
            set 2 63 = 127    # only 6 is open
            set 0 14 = 13
            lend 4 5 = 20
            pass 3 = 3
            lend 5 6 = 20
            copyOf 5 2 = 1
            copyOf 5 3 = 6
            copyOf 5 4 = 20
            copyOf 5 1 = 0
            """);
        Script.run("promise 3, a kept copy goes to him for whom it is kept", """
            copy 0 2 = 0
            hold 4 0 2 0 = 0
            copyOf 0 2 = 2
            lend 0 3 = NOT
            lend 0 4 = 14
            told 10 = 0
            holdOf 0 0 = UNKNOWN
            copyOf 0 2 = 1
            copyOf 0 3 = 4
            """);
        Script.run("promise 3, a hold for another copy stays", """
            copy 0 0 = 0
            copy 0 1 = 1
            hold 7 0 0 0 = 0
            copyOf 0 2 = 2
            lend 1 7 = 14
            holdOf 0 5 = 2
            lend 0 7 = 14
            told 10 = 0
            readerOf 7 0 = 3
            """);
        Script.run("promise 3, one on its way is not lent", """
            copy 0 0 = 0
            hold 1 0 1 0 = 0
            copyOf 0 2 = 3
            lend 0 1 = NOT
            lend 0 2 = NOT
            pass 1 = 1
            lend 0 1 = 15
            """);
        Script.run("promise 3, three out, one of them kept for him", """
            4 * copy 0 0
            hold 2 0 0 0 = 0
            lend 1 2 = 14
            lend 2 2 = 14
            lend 3 2 = 14
            lend 0 2 = NOT
            holdOf 0 5 = 2
            """);
    }

    private static void givingBack() {
        Script.run("promise 4, the step", """
            set 2 0 = 64
            4 * copy 0 0
            lend 0 1 = 14
            lend 1 1 = 14
            lend 2 1 = 14
            lend 3 2 = 14
            pass 14 = 14
            giveBack 0 2 = 0
            copyOf 0 1 = 2
            copyOf 0 2 = 0
            copyOf 0 3 = NONE
            copyOf 0 4 = NONE
            pass 7 = 21
            giveBack 1 0 = 1
            pass 1 = 22
            giveBack 2 0 = 2
            pass 30 = 52
            giveBack 3 0 = 4
            """);
        Script.run("promise 4, a lost one comes back", """
            copy 0 0 = 0
            lend 0 3 = 14
            pass 30 = 30
            lose 0 = 1
            giveBack 0 3 = 0
            copyOf 0 1 = 3
            copyOf 0 2 = 0
            told 9 = 0
            """);
        Script.run("promise 4, it serves the row, by need, then by number", """
            copy 0 0 = 0
            lend 0 0 = 14
            hold 1 0 0 0 = 0
            hold 2 0 0 2 = 1
            hold 3 0 3 2 = 2
            giveBack 0 3 = 0
            copyOf 0 3 = 1
            copyOf 0 2 = 3
            copyOf 0 1 = 0
            copyOf 0 4 = 1
            """);
    }

    private static void renewing() {
        Script.run("promise 5, due is new", """
            copy 0 0 = 0
            lend 0 6 = 14
            pass 6 = 6
            renew 0 = 21      # 20 is closed
            copyOf 0 4 = 21
            copyOf 0 3 = 6
            copyOf 0 2 = 1
            set 0 1 = 14
            renew 0 = 7       # it may come nearer
            pass 20 = 26
            copyOf 0 5 = 3
            renew 0 = 28
            copyOf 0 5 = 0
            """);
    }

    private static void losing() {
        Script.run("promise 6, what it was", """
            copy 0 0 = 0
            copy 1 0 = 1
            copy 2 0 = 2
            copy 3 0 = 3
            lend 1 1 = 14
            hold 2 2 0 0 = 0
            hold 3 3 2 0 = 1
            lose 0 = 0
            lose 1 = 1
            lose 2 = 2
            lose 3 = 3
            told 9 = 15
            copyOf 1 1 = 0
            copyOf 1 2 = 4
            copyOf 1 3 = NONE
            copyOf 1 4 = NONE
            copyOf 1 5 = NONE
            copyOf 3 1 = 2
            copyOf 3 3 = NONE
            copyOf 3 4 = NONE
            holdOf 0 5 = 0
            holdOf 0 6 = NONE
            holdOf 1 5 = 0
            readerOf 1 0 = 0
            told 11 = 2
            """);
        Script.run("promise 6, the hold that waits again is served", """
            copy 0 0 = 0
            copy 0 2 = 1
            hold 5 0 0 1 = 0
            holdOf 0 6 = 0
            pass 2 = 2
            lose 0 = 2
            holdOf 0 6 = 1
            holdOf 0 5 = 1
            copyOf 1 4 = 4
            holdOf 0 4 = 0
            """);
        Script.run("promise 6, it keeps its place by number", """
            copy 0 0 = 0
            hold 5 0 0 1 = 0
            hold 6 0 0 1 = 1
            lose 0 = 2
            holdOf 0 7 = 0
            holdOf 1 7 = 1
            giveBack 0 0 = 0
            copyOf 0 3 = 0
            """);
    }
}

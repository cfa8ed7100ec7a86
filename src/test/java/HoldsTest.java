/** Promises 7 and 8: hold, giveUp; and how all are served. */
public final class HoldsTest {
    public static void main(String[] args) {
        holds();
        serving();
        givingUp();
        Script.end();
    }

    private static void holds() {
        Script.run("promise 7, numbers rise and none is used again", """
            hold 0 0 0 0 = 0
            hold 0 1 0 3 = 1
            giveUp 1 = 1
            hold 0 1 0 3 = 2
            giveUp 0 = 1
            holdOf 0 0 = UNKNOWN
            holdOf 2 1 = 1
            """);
        Script.run("promise 7, one on the way is one", """
            copy 0 0 = 0
            hold 1 0 2 0 = 0
            hold 1 0 2 0 = NOT
            """);
        Script.run("promise 7, twelve at a time", """
            hold 0 0 0 0 = 0
            hold 1 0 0 0 = 1
            hold 2 0 0 0 = 2
            hold 3 0 0 0 = 3
            hold 4 0 0 0 = 4
            hold 5 0 0 0 = 5
            hold 0 1 0 0 = 6
            hold 1 1 0 0 = 7
            hold 2 1 0 0 = 8
            hold 3 1 0 0 = 9
            hold 4 1 0 0 = 10
            hold 5 1 0 0 = 11
            hold 6 1 0 0 = FULL
            hold 5 1 0 0 = NOT        # NOT stands ahead of FULL
            hold 5 1 0 4 = OUTSIDE
            hold 5 6 0 0 = UNKNOWN
            told 10 = 12
            copy 0 0 = 0              # ready ones count, too
            hold 6 1 0 0 = FULL
            giveUp 3 = 11
            hold 6 1 0 0 = 12
            told 11 = 11
            holdOf 11 7 = 5
            holdOf 12 7 = 6
            """);
        Script.run("promise 7, a full house forgets those that are gone", """
            hold 0 0 0 0 = 0
            hold 1 0 0 0 = 1
            hold 2 0 0 0 = 2
            hold 3 0 0 0 = 3
            hold 4 0 0 0 = 4
            hold 5 0 0 0 = 5
            hold 6 0 0 0 = 6
            hold 7 0 0 0 = 7
            hold 8 0 0 0 = 8
            hold 9 0 0 0 = 9
            hold 0 1 0 0 = 10
            hold 1 1 0 3 = 11
            giveUp 11 = 11
            told 10 = 11
            told 11 = 11
            holdOf 11 0 = UNKNOWN
            holdOf 10 7 = 0
            titleOf 1 2 = 1
            titleOf 1 3 = 10
            readerOf 1 1 = 1
            pass 1 = 1
            giveUp 10 = 10
            titleOf 1 2 = 0
            titleOf 1 3 = NONE
            titleOf 1 4 = 0
            copy 1 0 = 0
            told 5 = 1
            hold 1 1 0 0 = 12
            holdOf 12 5 = 2
            """);
        Script.run("promise 7, the day it was made", """
            pass 9 = 9
            hold 4 3 2 1 = 0
            pass 5 = 14
            holdOf 0 4 = 9
            holdOf 0 0 = 4
            holdOf 0 1 = 3
            holdOf 0 2 = 2
            holdOf 0 3 = 1
            """);
    }

    private static void serving() {
        Script.run("served, the least way, then the least number", """
            copy 0 2 = 0
            copy 0 3 = 1
            copy 0 1 = 2
            hold 1 0 0 0 = 0
            holdOf 0 6 = 1            # ways 2, 1, 1
            copyOf 1 4 = 1
            hold 2 0 1 0 = 1
            holdOf 1 6 = 2            # way 0
            copyOf 2 2 = 2
            hold 3 0 0 0 = 2
            holdOf 2 6 = 0
            copyOf 0 4 = 2
            copyOf 0 1 = 0
            """);
        Script.run("served, the ring closes between 0 and 3", """
            copy 0 0 = 0
            copy 1 3 = 1
            copy 2 3 = 2
            copy 3 1 = 3
            copy 4 2 = 4
            hold 0 0 3 0 = 0
            hold 0 1 0 0 = 1
            hold 0 2 1 0 = 2
            hold 0 3 2 0 = 3
            hold 0 4 0 0 = 4
            copyOf 0 4 = 1
            copyOf 1 4 = 1
            copyOf 2 4 = 2
            copyOf 3 4 = 1
            copyOf 4 4 = 2
            """);
        Script.run("served, patience is that of the day", """
            set 1 7 = 3
            copy 0 0 = 0
            copy 1 0 = 1
            hold 0 0 0 0 = 0
            hold 1 1 2 0 = 1
            copyOf 0 4 = 7
            copyOf 1 4 = 2
            set 1 20 = 7
            pass 2 = 2
            copyOf 0 4 = 7
            copyOf 1 2 = 2
            copyOf 1 4 = 22
            """);
        Script.run("served, several at once when holds run out", """
            copy 0 0 = 0
            copy 0 0 = 1
            hold 0 0 0 0 = 0
            hold 1 0 0 0 = 1
            hold 2 0 1 0 = 2
            hold 3 0 2 3 = 3
            pass 3 = 3
            told 7 = 3
            pass 1 = 4
            told 10 = 2
            told 8 = 3
            copyOf 0 3 = 3
            copyOf 0 4 = 6
            copyOf 1 3 = 2
            copyOf 1 4 = 5
            told 12 = 2
            """);
    }

    private static void givingUp() {
        Script.run("promise 8, one that waits", """
            hold 0 0 0 0 = 0
            hold 1 0 0 0 = 1
            hold 2 0 0 0 = 2
            giveUp 1 = 2
            holdOf 2 7 = 1
            holdOf 0 7 = 0
            giveUp 1 = UNKNOWN
            """);
        Script.run("promise 8, one that is ready, and the next is served", """
            copy 0 2 = 0
            hold 0 0 2 0 = 0
            hold 1 0 2 0 = 1
            pass 2 = 2
            giveUp 0 = 1
            copyOf 0 2 = 2
            copyOf 0 3 = 1
            copyOf 0 4 = 5
            giveUp 1 = 0
            copyOf 0 2 = 0
            copyOf 0 1 = 2
            copyOf 0 3 = NONE
            copyOf 0 4 = NONE
            """);
        Script.run("promise 8, one on the way is in where it goes to, at once", """
            copy 0 0 = 0
            hold 0 0 2 0 = 0
            hold 1 0 3 0 = 1
            giveUp 0 = 1
            copyOf 0 2 = 3
            copyOf 0 3 = 1
            copyOf 0 1 = 3
            copyOf 0 4 = 1            # from 2 to 3
            told 12 = 2
            giveUp 1 = 0
            copyOf 0 2 = 0
            copyOf 0 1 = 3
            """);
    }
}

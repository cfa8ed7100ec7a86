/** Promises 9 to 11: pass, set, drift. */
public final class DaysTest {
    public static void main(String[] args) {
        days();
        settings();
        lots();
        Script.end();
    }

    private static void days() {
        Script.run("promise 9, now", """
            pass 1 = 1
            pass 30 = 31
            told 0 = 31
            pass 0 = OUTSIDE
            pass 31 = OUTSIDE
            pass -1 = OUTSIDE
            pass -2147483648 = OUTSIDE
            pass 2147483647 = OUTSIDE
            told 0 = 31
            told 15 = 2
            """);
        Script.run("promise 9, the last day", """
            333 * pass 30
            told 0 = 9990
            pass 10 = NOT
            pass 31 = OUTSIDE
            told 15 = 8
            pass 9 = 9999
            pass 1 = NOT
            told 0 = 9999
            """);
        Script.run("promise 9, a copy comes there and is kept, then its hold runs out", """
            copy 0 0 = 0
            hold 1 0 2 0 = 0
            copyOf 0 2 = 3
            pass 1 = 1
            copyOf 0 2 = 3
            pass 1 = 2
            copyOf 0 2 = 2
            copyOf 0 1 = 2
            copyOf 0 3 = 0
            copyOf 0 4 = 5
            pass 3 = 5
            copyOf 0 2 = 2
            pass 1 = 6
            copyOf 0 2 = 0
            copyOf 0 1 = 2
            copyOf 0 3 = NONE
            copyOf 0 4 = NONE
            told 10 = 0
            holdOf 0 5 = UNKNOWN
            """);
        Script.run("promise 9, each day is served, not the last alone", """
            copy 0 0 = 0
            hold 1 0 0 0 = 0
            hold 2 0 1 0 = 1
            pass 30 = 30
            told 10 = 0
            copyOf 0 1 = 1
            copyOf 0 2 = 0
            """);
        Script.run("promise 9, closed days pass like others", """
            set 2 127 = 64
            copy 0 0 = 0
            hold 1 0 1 0 = 0
            pass 1 = 1
            copyOf 0 2 = 2
            pass 4 = 5
            copyOf 0 2 = 0
            """);
    }

    private static void settings() {
        Script.run("promise 10, what it was", """
            set 0 60 = 14
            set 0 1 = 60
            told 1 = 1
            set 1 20 = 3
            set 1 1 = 20
            told 2 = 1
            set 2 127 = 64
            set 2 0 = 127
            told 3 = 0
            set 2 0 = 0
            told 15 = 7
            """);
        Script.run("promise 10, days given before stay", """
            copy 0 0 = 0
            copy 1 0 = 1
            lend 0 1 = 14
            hold 2 1 0 0 = 0
            set 0 2 = 14
            set 1 9 = 3
            set 2 1 = 64
            copyOf 0 4 = 14
            copyOf 1 4 = 3
            giveUp 0 = 0
            hold 2 1 0 0 = 1
            copyOf 1 4 = 9
            """);
    }

    /** The numbers of the seed 1 are 16807, 282475249, 1622650073, 984943658, 1144108930, 470211272, .. */
    private static void lots() {
        Script.run("promise 11, a day passes", """
            drift 1 1 = 1             # 16807 by 4: 3
            told 0 = 1
            told 15 = 1
            """);
        // 282475249 by 4: 1; without copies nothing more; 1622650073 by 4: 1; 984943658 by 4: 2; 1144108930 by 4: 2;
        // 470211272 by 4: 0: hold(101027544 by 10, 1457850878 by 6, 1458777923 by 4, 2007237709 by 4)
        Script.run("promise 11, without copies, then a hold", """
            drift 5 1 = 1
            told 10 = 0
            drift 6 1 = 2
            holdOf 0 0 = 4
            holdOf 0 1 = 2
            holdOf 0 2 = 3
            holdOf 0 3 = 1
            holdOf 0 4 = 2
            told 15 = 2
            """);
        // 1: lend(1622650073 by 1, 984943658 by 10); 1144108930 by 4: 2: giveBack(470211272 by 1, 101027544 by 4)
        Script.run("promise 11, with a copy", """
            copy 0 3 = 0
            drift 2 1 = 1
            copyOf 0 2 = 1
            copyOf 0 3 = 8
            copyOf 0 4 = 15
            undo = 1
            drift 3 1 = 1
            copyOf 0 2 = 0
            copyOf 0 1 = 0
            undo = 1
            told 0 = 0
            """);
        Script.run("promise 11, only pass() has a last day", """
            333 * pass 30
            pass 9 = 9999
            drift 1 1 = 10000
            pass 1 = NOT
            """);
    }
}

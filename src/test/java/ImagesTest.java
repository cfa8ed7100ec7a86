/** Promises 18 and 19: keep, goBack. */
public final class ImagesTest {
    public static void main(String[] args) {
        Script.run("promise 18, now, and nothing can be undone", """
            keep 0 = 0
            pass 4 = 4
            told 15 = 1
            keep 1 = 4
            told 15 = 0
            undo = NOT
            told 0 = 4
            pass 1 = 5
            undo = 0
            told 0 = 4
            """);
        Script.run("promise 18, an image is written over", """
            keep 0 = 0
            pass 3 = 3
            keep 0 = 3
            pass 5 = 8
            goBack 0 = 3
            """);
        Script.run("promise 19, all comes back", """
            copy 0 0 = 0
            copy 1 1 = 1
            copy 2 2 = 2
            lend 0 1 = 14
            hold 2 1 1 1 = 0
            hold 3 2 0 2 = 1
            hold 4 0 3 3 = 2
            set 0 7 = 14
            set 1 8 = 3
            set 2 3 = 64
            keep 1 = 0
            giveUp 0 = 2
            lose 0 = 1
            pass 20 = 20
            copy 3 3 = 3
            set 0 5 = 7
            set 1 5 = 8
            set 2 5 = 3
            hold 9 5 0 0 = 3
            goBack 1 = 0
            told 0 = 0
            told 1 = 7
            told 2 = 8
            told 3 = 3
            told 4 = 3
            told 5 = 0
            told 6 = 1
            told 7 = 2
            told 8 = 4
            told 9 = 0
            told 10 = 3
            told 11 = 1
            told 12 = 1
            told 15 = 0
            copyOf 0 3 = 1
            copyOf 0 4 = 14
            holdOf 0 5 = 2
            holdOf 1 5 = 1
            holdOf 2 3 = 3
            holdOf 3 0 = UNKNOWN
            hold 9 5 0 0 = 3
            undo = 0
            undo = NOT
            """);
        Script.run("promise 19, an image stays after it was gone back to, and the two are two", """
            pass 1 = 1
            keep 0 = 1
            pass 1 = 2
            keep 1 = 2
            pass 1 = 3
            goBack 0 = 1
            pass 9 = 10
            goBack 0 = 1
            goBack 1 = 2
            goBack 0 = 1
            told 0 = 1
            """);
        Script.run("promise 19, nothing can be undone then", """
            keep 0 = 0
            pass 3 = 3
            pass 3 = 6
            goBack 0 = 0
            told 15 = 0
            undo = NOT
            told 0 = 0
            """);
        Script.end();
    }
}

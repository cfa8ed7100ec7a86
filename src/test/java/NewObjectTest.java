/** Promise 1. */
public final class NewObjectTest {
    public static void main(String[] args) {
        Script.run("promise 1, what is told", """
            told 0 = 0
            told 1 = 14
            told 2 = 3
            told 3 = 64
            told 4 = 0
            told 5 = 0
            told 6 = 0
            told 7 = 0
            told 8 = 0
            told 9 = 0
            told 10 = 0
            told 11 = 0
            told 12 = 0
            told 13 = 0
            told 14 = 0
            told 15 = 0
            """);
        Script.run("promise 1, nothing is there", """
            copyOf 0 0 = UNKNOWN
            holdOf 0 0 = UNKNOWN
            undo = NOT
            goBack 0 = NOT
            goBack 1 = NOT
            titleOf 5 0 = 0
            titleOf 5 3 = NONE
            readerOf 9 0 = 0
            """);
        LoanHouse one = new LoanHouse();
        LoanHouse other = new LoanHouse();
        one.copy(0, 0);
        one.pass(3);
        Script.run("promise 1, objects share nothing", other, """
            told 0 = 0
            told 4 = 0
            told 15 = 0
            """);
        Script.end();
    }
}

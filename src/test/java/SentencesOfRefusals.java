import java.util.List;

/** "What is refused changes nothing": each call, refused in houses that have much to change. */
final class SentencesOfRefusals {
    private static final String CHANGES_NOTHING = "What is refused changes nothing.";

    /** All is full, one READER has three OUT, each kind of COPY is there, image 0 is kept, more than 8 deeds were done. */
    static final String FULL_HOUSE = """
        pass 2 = 2
        keep 0 = 2
        2 * copy 0 0
        copy 1 2 = 2
        copy 2 3 = 3
        copy 3 0 = 4
        copy 4 0 = 5
        10 * copy 5 0
        lend 0 1 = 16
        lend 2 1 = 16
        lend 3 1 = 16
        lend 1 2 = 16
        lose 4 = 0
        hold 3 4 0 0 = 0
        hold 3 0 0 0 = 1
        hold 4 0 1 3 = 2
        hold 5 0 2 1 = 3
        hold 6 0 3 1 = 4
        hold 7 0 0 2 = 5
        hold 8 0 0 0 = 6
        hold 9 0 0 3 = 7
        hold 0 0 0 0 = 8
        hold 0 3 1 0 = 9
        hold 1 3 1 0 = 10
        pass 1 = 3
        hold 4 5 2 1 = 11
        """;

    private static final String LAST_DAY = """
        333 * pass 30
        copy 0 0 = 0
        hold 0 0 1 0 = 0
        pass 9 = 9999
        """;

    private SentencesOfRefusals() {
    }

    static void all() {
        ofCopies();
        ofHolds();
        ofDays();
        ofAsks();
        ofImages();
    }

    private static void ofCopies() {
        refused(2, FULL_HOUSE, "copy 0 0 = FULL", "copy 6 0 = UNKNOWN", "copy -1 0 = UNKNOWN", "copy 0 4 = UNKNOWN", "copy 0 -1 = UNKNOWN");
        refused(2, "", "copy 6 0 = UNKNOWN", "copy 0 4 = UNKNOWN");
        refused(3, FULL_HOUSE, "lend 16 0 = UNKNOWN", "lend -1 0 = UNKNOWN", "lend 7 10 = UNKNOWN", "lend 7 -1 = UNKNOWN",
            "lend 7 1 = NOT", "lend 0 5 = NOT", "lend 0 1 = NOT", "lend 5 4 = NOT", "lend 6 4 = NOT", "lend 4 5 = NOT");
        refused(4, FULL_HOUSE, "giveBack 16 0 = UNKNOWN", "giveBack -1 0 = UNKNOWN", "giveBack 0 4 = UNKNOWN", "giveBack 0 -1 = UNKNOWN",
            "giveBack 7 1 = NOT", "giveBack 5 1 = NOT", "giveBack 6 1 = NOT");
        refused(5, FULL_HOUSE, "renew 16 = UNKNOWN", "renew -1 = UNKNOWN", "renew 0 = NOT", "renew 7 = NOT", "renew 5 = NOT", "renew 6 = NOT", "renew 4 = NOT");
        refused(6, FULL_HOUSE, "lose 16 = UNKNOWN", "lose -1 = UNKNOWN", "lose 4 = NOT");
    }

    private static void ofHolds() {
        refused(7, FULL_HOUSE, "hold 10 2 0 0 = UNKNOWN", "hold -1 2 0 0 = UNKNOWN", "hold 2 6 0 0 = UNKNOWN", "hold 2 -1 0 0 = UNKNOWN",
            "hold 2 2 4 0 = UNKNOWN", "hold 2 2 -1 0 = UNKNOWN", "hold 2 2 0 4 = OUTSIDE", "hold 2 2 0 -1 = OUTSIDE",
            "hold 3 0 1 3 = NOT", "hold 3 4 1 3 = NOT", "hold 4 5 1 3 = NOT", "hold 1 0 1 3 = NOT", "hold 2 2 0 0 = FULL");
        refused(7, "", "hold 0 0 0 4 = OUTSIDE", "hold 10 0 0 0 = UNKNOWN");
        refused(8, FULL_HOUSE, "giveUp 12 = UNKNOWN", "giveUp -1 = UNKNOWN", "giveUp 2147483647 = UNKNOWN");
        refused(8, "", "giveUp 0 = UNKNOWN", "giveUp -1 = UNKNOWN");
    }

    private static void ofDays() {
        refused(9, FULL_HOUSE, "pass 0 = OUTSIDE", "pass 31 = OUTSIDE", "pass -1 = OUTSIDE", "pass 2147483647 = OUTSIDE");
        refused(9, LAST_DAY, "pass 1 = NOT", "pass 30 = NOT", "pass 31 = OUTSIDE");
        refused(10, FULL_HOUSE, "set 0 0 = OUTSIDE", "set 0 61 = OUTSIDE", "set 1 0 = OUTSIDE", "set 1 21 = OUTSIDE", "set 2 -1 = OUTSIDE",
            "set 2 128 = OUTSIDE", "set 3 1 = OUTSIDE", "set -1 1 = OUTSIDE");
        refused(11, FULL_HOUSE, "drift 0 1 = OUTSIDE", "drift 21 1 = OUTSIDE", "drift 1 0 = OUTSIDE", "drift 1 1000000 = OUTSIDE", "drift -1 -1 = OUTSIDE");
        refused(12, "", "undo = NOT");
        refused(12, FULL_HOUSE + "8 * undo", "undo = NOT");
        refused(12, FULL_HOUSE + "keep 1 = 3", "undo = NOT");
    }

    private static void ofAsks() {
        refused(13, FULL_HOUSE, "told -1 = OUTSIDE", "told 16 = OUTSIDE");
        refused(14, FULL_HOUSE, "copyOf 16 0 = UNKNOWN", "copyOf -1 0 = UNKNOWN", "copyOf 0 6 = OUTSIDE", "copyOf 0 -1 = OUTSIDE");
        refused(15, FULL_HOUSE, "holdOf 12 0 = UNKNOWN", "holdOf -1 0 = UNKNOWN", "holdOf 0 9 = OUTSIDE", "holdOf 0 -1 = OUTSIDE");
        refused(16, FULL_HOUSE, "titleOf 6 0 = UNKNOWN", "titleOf -1 0 = UNKNOWN", "titleOf 0 5 = OUTSIDE", "titleOf 0 -1 = OUTSIDE");
        refused(17, FULL_HOUSE, "readerOf 10 0 = UNKNOWN", "readerOf -1 0 = UNKNOWN", "readerOf 0 5 = OUTSIDE", "readerOf 0 -1 = OUTSIDE");
    }

    private static void ofImages() {
        refused(18, FULL_HOUSE, "keep 2 = UNKNOWN", "keep -1 = UNKNOWN", "keep 2147483647 = UNKNOWN");
        refused(19, FULL_HOUSE, "goBack 2 = UNKNOWN", "goBack -1 = UNKNOWN", "goBack 1 = NOT");
        refused(19, "", "goBack 0 = NOT", "goBack 1 = NOT", "goBack 2 = UNKNOWN");
    }

    private static void refused(int promise, String before, String... rows) {
        String name = Sentences.says(promise, CHANGES_NOTHING);
        for (String row : rows) {
            sameAsTwin(name + " " + row, before, row, "");
            for (int undone = 1; undone <= 9; undone++) {
                sameAsTwin(name + " " + row, before, row, undone + " * undo");
            }
            sameAsTwin(name + " " + row, before, row, "1 * goBack 0");
            sameAsTwin(name + " " + row, before, row, "1 * goBack 1");
            sameAsTwin(name + " " + row, before, row, "1 * copy 2 2");
            sameAsTwin(name + " " + row, before, row, "1 * giveUp 0\n 1 * hold 2 2 2 2");
        }
    }

    /** Whatever comes then, all is as in a twin that was never asked for what is refused. */
    private static void sameAsTwin(String name, String before, String row, String then) {
        List<String> got = after(name, before + "\n" + row + "\n" + then);
        Look.same(name + ", then " + then.replace("\n", ";"), got, after(name, before + "\n" + then));
    }

    private static List<String> after(String name, String rows) {
        LoanHouse house = new LoanHouse();
        Script.run(name, house, rows);
        return Look.at(house, 14);
    }
}

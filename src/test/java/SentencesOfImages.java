/** Promises 18 and 19: keep, goBack. */
final class SentencesOfImages {
    private SentencesOfImages() {
    }

    static void all() {
        keep();
        goBack();
        keepAll();
    }

    private static void keep() {
        Sentences.says(18, "IMAGE i becomes what is so (nothing can be undone then): NOW.", """
            keep 0 = 0                # a new object, too
            pass 9 = 9
            told 15 = 1
            keep 1 = 9
            told 15 = 0
            undo = NOT
            told 0 = 9
            pass 1 = 10
            goBack 0 = 0
            goBack 1 = 9
            """);
        Sentences.says(18, "IMAGE i becomes what is so", "and is then no longer what it was", """
            keep 0 = 0
            pass 1 = 1
            keep 0 = 1
            keep 0 = 1
            pass 1 = 2
            goBack 0 = 1
            goBack 1 = NOT
            """);
        Sentences.says(18, "(nothing can be undone then)", "eight are forgotten, and deeds behind it are undone", """
            9 * pass 1
            keep 0 = 9
            told 15 = 0
            undo = NOT
            pass 2 = 11
            pass 3 = 14
            undo = 1
            undo = 0
            told 0 = 9
            undo = NOT
            """);
        Sentences.says(18, "UNKNOWN.", """
            keep -1 = UNKNOWN
            keep 2 = UNKNOWN
            keep -2147483648 = UNKNOWN
            keep 2147483647 = UNKNOWN
            """);
    }

    private static void goBack() {
        Sentences.says(19, "What is so becomes IMAGE i (nothing can be undone then): NOW.", """
            pass 5 = 5
            keep 1 = 5
            9 * pass 1
            told 15 = 8
            goBack 1 = 5
            told 0 = 5
            told 15 = 0
            undo = NOT
            told 0 = 5
            pass 1 = 6                # what is done then is not done to the IMAGE
            undo = 0
            told 0 = 5
            pass 7 = 12
            goBack 1 = 5
            told 0 = 5
            """);
        Sentences.says(19, "What is so becomes IMAGE i", "ahead, too", """
            keep 0 = 0
            pass 30 = 30
            keep 1 = 30
            goBack 0 = 0
            goBack 1 = 30
            goBack 1 = 30
            told 0 = 30
            """);
        Sentences.says(19, "What is so becomes IMAGE i", "the number of the next HOLD, too", """
            hold 0 0 0 0 = 0
            keep 0 = 0
            hold 1 0 0 0 = 1
            hold 2 0 0 0 = 2
            goBack 0 = 0
            holdOf 1 0 = UNKNOWN
            hold 3 0 0 0 = 1
            """);
        Sentences.says(19, "UNKNOWN", """
            keep 0 = 0
            keep 1 = 0
            goBack -1 = UNKNOWN
            goBack 2 = UNKNOWN
            goBack -2147483648 = UNKNOWN
            goBack 2147483647 = UNKNOWN
            """);
        Sentences.says(19, "NOT: it was not kept.", "neither, the one, the other", """
            goBack 0 = NOT
            goBack 1 = NOT
            keep 0 = 0
            goBack 1 = NOT
            goBack 0 = 0
            goBack 1 = NOT            # going back keeps nothing
            keep 2 = UNKNOWN
            goBack 1 = NOT
            """);
        Sentences.says(19, "NOT: it was not kept.", "the other way round", """
            keep 1 = 0
            goBack 0 = NOT
            goBack 1 = 0
            """);
    }

    /** Whatever comes between, a house that went back is asked as its twin that stayed. */
    private static void keepAll() {
        String[] between = {"", "8 * pass 30", "1 * lose 0\n1 * lose 5\n1 * lose 6", "1 * giveUp 0\n1 * giveUp 2\n1 * giveUp 11\n1 * hold 2 2 0 0",
            "1 * set 0 1\n1 * set 1 1\n1 * set 2 1", "5 * drift 20 4711", "1 * giveBack 0 3\n1 * lend 7 0", "3 * undo", "1 * goBack 0\n1 * copy 3 3"};
        for (int image = 0; image < 2; image++) {
            for (String rows : between) {
                String name = Sentences.says(19, "IMAGES 0, 1 keep all.") + ", " + image + " with " + rows.replace("\n", "; ") + " between";
                LoanHouse house = new LoanHouse();
                LoanHouse twin = new LoanHouse();
                String keep = SentencesOfRefusals.FULL_HOUSE + "keep " + image + " = 3\n";
                Script.run(name, house, keep + rows + "\ngoBack " + image + " = 3");
                Script.run(name, twin, keep);
                Look.same(name, Look.at(house, 14), Look.at(twin, 14));
            }
        }
    }
}

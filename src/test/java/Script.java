import java.util.Map;

/**
 * Runs of calls, written as rows: 'lend 0 4 = 14' calls lend(0, 4) and wants 14 (a number, or a constant's name);
 * '3 * pass 30' calls pass(30) three times and takes every answer; what stands behind '#' is for the reader.
 */
final class Script {
    private static final Map<String, Integer> NAMES = Map.of(
        "NONE", LoanHouse.NONE, "NEVER", LoanHouse.NEVER, "UNKNOWN", LoanHouse.UNKNOWN,
        "OUTSIDE", LoanHouse.OUTSIDE, "NOT", LoanHouse.NOT, "FULL", LoanHouse.FULL);

    private static int wrong = 0;
    private static int looks = 0;

    private Script() {
    }

    static void run(String name, String rows) {
        run(name, new LoanHouse(), rows);
    }

    static void run(String name, LoanHouse house, String rows) {
        for (String row : rows.split("\n")) {
            String plain = row.replaceAll("#.*", "").trim();
            if (!plain.isEmpty()) {
                runRow(name, house, plain);
            }
        }
    }

    private static void runRow(String name, LoanHouse house, String row) {
        if (row.contains("*")) {
            String[] parts = row.split("\\*");
            for (int i = 0; i < Integer.parseInt(parts[0].trim()); i++) {
                answer(name, house, parts[1].trim());
            }
            return;
        }
        String[] parts = row.split("=");
        String want = parts[1].trim();
        due(name + ": " + parts[0].trim(), answer(name, house, parts[0].trim()), NAMES.containsKey(want) ? NAMES.get(want) : Integer.parseInt(want));
    }

    static void due(String what, long got, long want) {
        looks++;
        if (got != want) {
            wrong++;
            System.out.println(what + " answered " + got + ", due is " + want);
        }
    }

    /** Ends the test: exit code 1 if an answer was wrong, or if there was none to look at. */
    static void end() {
        System.out.println(looks + " answers, " + wrong + " wrong");
        if (wrong != 0 || looks == 0) {
            System.exit(1);
        }
    }

    /** No call may ever throw: one that does is told with its row, and the other rows still run. */
    private static int answer(String name, LoanHouse house, String row) {
        try {
            return call(house, row);
        } catch (RuntimeException thrown) {
            due(name + ": " + row + " threw " + thrown, 0, 1);
            return Integer.MIN_VALUE;
        }
    }

    private static int call(LoanHouse house, String row) {
        String[] words = row.split("\\s+");
        int[] n = new int[4];
        for (int i = 1; i < words.length; i++) {
            n[i - 1] = Integer.parseInt(words[i]);
        }
        return switch (words[0]) {
            case "copy" -> house.copy(n[0], n[1]);
            case "lend" -> house.lend(n[0], n[1]);
            case "giveBack" -> house.giveBack(n[0], n[1]);
            case "renew" -> house.renew(n[0]);
            case "lose" -> house.lose(n[0]);
            case "hold" -> house.hold(n[0], n[1], n[2], n[3]);
            case "giveUp" -> house.giveUp(n[0]);
            case "pass" -> house.pass(n[0]);
            case "set" -> house.set(n[0], n[1]);
            case "drift" -> house.drift(n[0], n[1]);
            case "undo" -> house.undo();
            case "told" -> house.told(n[0]);
            case "copyOf" -> house.copyOf(n[0], n[1]);
            case "holdOf" -> house.holdOf(n[0], n[1]);
            case "titleOf" -> house.titleOf(n[0], n[1]);
            case "readerOf" -> house.readerOf(n[0], n[1]);
            case "keep" -> house.keep(n[0]);
            case "goBack" -> house.goBack(n[0]);
            default -> throw new IllegalArgumentException(row);
        };
    }
}

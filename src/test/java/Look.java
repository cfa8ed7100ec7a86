import java.util.ArrayList;
import java.util.List;

/** All that can be asked of a house, so that two houses can be held against each other; some 320 calls at most. */
final class Look {
    private static final int TOLD = 16, OF_COPY = 6, OF_HOLD = 9, OF_TITLE = 5, OF_READER = 5;

    private Look() {
    }

    /** The answers as rows; holds are asked for up to a number. */
    static List<String> at(LoanHouse house, int holds) {
        List<String> answers = new ArrayList<>();
        for (int what = 0; what < TOLD; what++) {
            answers.add("told " + what + " = " + house.told(what));
        }
        for (int copy = 0; copy < house.told(4); copy++) {
            for (int what = 0; what < OF_COPY; what++) {
                answers.add("copyOf " + copy + " " + what + " = " + house.copyOf(copy, what));
            }
        }
        for (int hold = 0; hold < holds; hold++) {
            for (int what = 0; what < OF_HOLD && house.holdOf(hold, 0) != LoanHouse.UNKNOWN; what++) {
                answers.add("holdOf " + hold + " " + what + " = " + house.holdOf(hold, what));
            }
        }
        for (int title = 0; title < 6; title++) {
            for (int what = 0; what < OF_TITLE; what++) {
                answers.add("titleOf " + title + " " + what + " = " + house.titleOf(title, what));
            }
        }
        for (int reader = 0; reader < 10; reader++) {
            for (int what = 0; what < OF_READER; what++) {
                answers.add("readerOf " + reader + " " + what + " = " + house.readerOf(reader, what));
            }
        }
        return answers;
    }

    /** Says which answers are not the same; none may be. */
    static void same(String name, List<String> got, List<String> want) {
        List<String> other = new ArrayList<>(got);
        other.removeAll(want);
        Script.due(name + ", answers that changed " + other, other.size() + Math.abs(got.size() - want.size()), 0);
    }
}

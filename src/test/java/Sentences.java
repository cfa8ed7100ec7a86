import java.io.IOException;
import java.nio.file.Path;
import java.util.TreeSet;

/** Ties each run of calls to the promise and the sentence of the document that ask for it. */
final class Sentences {
    private static final TreeSet<Integer> PROMISES = new TreeSet<>();
    private static Document document;

    private Sentences() {
    }

    static void read(Path path) throws IOException {
        document = new Document(path);
    }

    static void says(int promise, String sentence, String rows) {
        Script.run(says(promise, sentence), rows);
    }

    /** One sentence may want several tests: each is told by its own case. */
    static void says(int promise, String sentence, String one, String rows) {
        Script.run(says(promise, sentence) + ", " + one, rows);
    }

    /** For a test that is more than rows: claims the sentence and answers the test's name. */
    static String says(int promise, String sentence) {
        PROMISES.add(promise);
        Script.due("the document has, under promise " + promise + " or Terms: " + sentence, document.says(promise, sentence) ? 1 : 0, 1);
        return "promise " + promise + ", \"" + sentence + "\"";
    }

    /** Words that ask for no answer of any call. */
    static void asksNothing(int promise, String sentence) {
        Script.due("the document has: " + sentence, document.says(promise, sentence) ? 1 : 0, 1);
    }

    static void lookForLeftOut() {
        for (String words : document.leftOut()) {
            Script.due("words of the document without a test: " + words, 0, 1);
        }
        Script.due("promises with a test", PROMISES.size(), document.promises());
    }
}

import java.io.IOException;
import java.nio.file.Files;
import java.nio.file.Path;
import java.util.ArrayList;
import java.util.BitSet;
import java.util.List;
import java.util.Map;
import java.util.TreeMap;
import java.util.regex.Matcher;
import java.util.regex.Pattern;

/** The document's words from 'Terms' to promise 19, and which of them some test has named. */
final class Document {
    /** 'Terms' stands under this number, the promises under their own. */
    private static final int TERMS = 0;
    private static final Pattern HEADING = Pattern.compile("## (?:Promise (\\d+):|(.*))");

    private final Map<Integer, String> texts = new TreeMap<>();
    private final Map<Integer, BitSet> named = new TreeMap<>();

    Document(Path path) throws IOException {
        Map<Integer, StringBuilder> parts = new TreeMap<>();
        int part = -1;
        for (String line : Files.readAllLines(path)) {
            Matcher heading = HEADING.matcher(line);
            if (heading.lookingAt()) {
                part = numberOf(heading);
            } else if (part >= 0) {
                parts.computeIfAbsent(part, p -> new StringBuilder()).append(line).append(' ');
            }
        }
        for (Map.Entry<Integer, StringBuilder> entry : parts.entrySet()) {
            texts.put(entry.getKey(), plain(entry.getValue().toString()));
            named.put(entry.getKey(), new BitSet());
        }
    }

    private static int numberOf(Matcher heading) {
        if (heading.group(1) != null) {
            return Integer.parseInt(heading.group(1));
        }
        return heading.group(2).equals("Terms") ? TERMS : -1;
    }

    /** Code is FaceTest's; fences and rules are no words. */
    private static String plain(String text) {
        return text.replaceAll("```(text)?", " ").replaceAll("`[^`]*`", " ").replaceAll("={2,} \\d|=", " ").replaceAll("\\s+", " ");
    }

    int promises() {
        return texts.size() - 1;
    }

    /** Whether a promise, or 'Terms', has these words; they count as named then. */
    boolean says(int promise, String words) {
        return isIn(promise, words) || isIn(TERMS, words);
    }

    private boolean isIn(int part, String words) {
        String text = texts.getOrDefault(part, "");
        String wanted = plain(words);
        boolean found = false;
        for (int at = text.indexOf(wanted); at >= 0; at = text.indexOf(wanted, at + 1)) {
            named.get(part).set(at, at + wanted.length());
            found = true;
        }
        return found;
    }

    /** The words that nobody named, with the part in which they stand. */
    List<String> leftOut() {
        List<String> left = new ArrayList<>();
        for (Map.Entry<Integer, String> entry : texts.entrySet()) {
            StringBuilder words = new StringBuilder();
            Matcher word = Pattern.compile("\\w+").matcher(entry.getValue());
            while (word.find()) {
                if (!named.get(entry.getKey()).get(word.start())) {
                    words.append(' ').append(word.group());
                }
            }
            if (words.length() > 0) {
                left.add((entry.getKey() == TERMS ? "Terms:" : "promise " + entry.getKey() + ":") + words);
            }
        }
        return left;
    }
}

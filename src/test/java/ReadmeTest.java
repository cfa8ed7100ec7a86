import java.io.IOException;
import java.lang.reflect.Method;
import java.lang.reflect.Modifier;
import java.nio.file.Files;
import java.nio.file.Path;
import java.util.List;
import java.util.Set;
import java.util.TreeSet;
import java.util.regex.Matcher;
import java.util.regex.Pattern;
import java.util.stream.Stream;

/** README.md: its run of calls answers what stands there, and it names every call, constant and test. Takes the readme's path. */
public final class ReadmeTest {
    private static final Pattern ROW = Pattern.compile("house\\.(\\w+)\\((.*)\\);\\s*// (-?\\d+|[A-Z]+): .*");
    private static final Pattern CALL = Pattern.compile("`(\\w+)\\(([\\w, ]*)\\)`");
    private static final Path TESTS = Path.of("src/test/java");

    public static void main(String[] args) throws IOException {
        String text = Files.readString(Path.of(args.length > 0 ? args[0] : "README.md"));
        Script.run("README.md", rowsOf(text));
        namesEveryCall(text);
        namesEveryConstant(text);
        namesEveryTest(text);
        Script.end();
    }

    /** The block of Java as rows for Script; a row of another form is a failure, so that none goes unlooked at. */
    private static String rowsOf(String text) {
        List<String> lines = text.lines().toList();
        int first = lines.indexOf("```java") + 1;
        yes("there is a block of Java that makes a house", first > 0 && lines.get(first).equals("LoanHouse house = new LoanHouse();"));
        StringBuilder rows = new StringBuilder();
        for (int i = first + 1; i < lines.size() && !lines.get(i).equals("```"); i++) {
            Matcher row = ROW.matcher(lines.get(i));
            boolean isRow = row.matches();
            yes("a call with its answer: " + lines.get(i), isRow);
            if (isRow) {
                rows.append(row.group(1)).append(' ').append(row.group(2).replace(",", "")).append(" = ").append(row.group(3)).append('\n');
            }
        }
        yes("the block has rows", rows.length() > 0);
        return rows.toString();
    }

    private static void namesEveryCall(String text) {
        Set<String> calls = new TreeSet<>();
        for (Method method : LoanHouse.class.getDeclaredMethods()) {
            if (Modifier.isPublic(method.getModifiers())) {
                calls.add(method.getName() + " " + method.getParameterCount());
            }
        }
        Set<String> named = new TreeSet<>();
        text.lines().filter(line -> line.startsWith("| `")).forEach(line -> {
            Matcher call = CALL.matcher(line.split("\\|")[1]);
            while (call.find()) {
                named.add(call.group(1) + " " + (call.group(2).isEmpty() ? 0 : call.group(2).split(",").length));
            }
        });
        yes("the calls named are those of the class: " + named, named.equals(calls));
    }

    private static void namesEveryConstant(String text) {
        for (String name : List.of("NONE", "NEVER", "UNKNOWN", "OUTSIDE", "NOT", "FULL")) {
            yes(name + " is named", text.contains("`" + name + "`"));
        }
    }

    private static void namesEveryTest(String text) throws IOException {
        Set<String> tests = new TreeSet<>();
        try (Stream<Path> files = Files.list(TESTS)) {
            files.map(file -> file.getFileName().toString()).filter(name -> name.endsWith("Test.java")).forEach(name -> tests.add(name.replace(".java", "")));
        }
        Set<String> named = new TreeSet<>();
        Matcher test = Pattern.compile("`(\\w+Test)`").matcher(text);
        while (test.find()) {
            named.add(test.group(1));
        }
        yes("the tests named are those that there are: " + named, named.equals(tests));
    }

    private static void yes(String what, boolean is) {
        Script.due(what, is ? 1 : 0, 1);
    }
}

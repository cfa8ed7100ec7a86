import java.lang.reflect.Field;
import java.lang.reflect.Method;
import java.lang.reflect.Modifier;
import java.nio.file.Files;
import java.nio.file.Path;
import java.util.Arrays;
import java.util.Set;
import java.util.TreeSet;
import java.util.regex.Matcher;
import java.util.regex.Pattern;

/** The face of the document and the rules of LANGUAGE.md that can be looked at from outside; takes the source's path. */
public final class FaceTest {
    private static final String[] METHODS = {"copy 2", "lend 2", "giveBack 2", "renew 1", "lose 1", "hold 4", "giveUp 1", "pass 1",
        "set 2", "drift 2", "undo 0", "told 1", "copyOf 2", "holdOf 2", "titleOf 2", "readerOf 2", "keep 1", "goBack 1"};
    private static final String[] RULED_OUT = {"\\bthrow\\b", "\\bthrows\\b", "\\btry\\b", "\\bcatch\\b", "\\bsynchronized\\b",
        "\\bassert\\b", "->", "::", "\\bimport\\b", "\\bpackage\\b", "\\w+Exact\\b", "\\bString\\s*\\.format\\b", "\\bstatic\\s*\\{"};

    public static void main(String[] args) throws Exception {
        constants();
        members();
        classesInside();
        source(Path.of(args.length > 0 ? args[0] : "src/main/java/LoanHouse.java"));
        Script.end();
    }

    private static void constants() {
        Script.due("NONE", LoanHouse.NONE, -1);
        Script.due("NEVER", LoanHouse.NEVER, 99999);
        Script.due("UNKNOWN", LoanHouse.UNKNOWN, -1000000001);
        Script.due("OUTSIDE", LoanHouse.OUTSIDE, -1000000002);
        Script.due("NOT", LoanHouse.NOT, -1000000003);
        Script.due("FULL", LoanHouse.FULL, -1000000004);
    }

    private static void members() {
        Set<String> found = new TreeSet<>();
        Set<String> names = new TreeSet<>();
        for (Method m : LoanHouse.class.getDeclaredMethods()) {
            if (Modifier.isPrivate(m.getModifiers())) {
                names.add(m.getName());
                continue;
            }
            found.add(m.getName() + " " + m.getParameterCount());
            yes(m.getName() + " is public, of ints alone", m.getModifiers() == Modifier.PUBLIC && m.getReturnType() == int.class
                && Arrays.stream(m.getParameterTypes()).allMatch(t -> t == int.class));
        }
        yes("the methods are the document's: " + found, found.equals(new TreeSet<>(Arrays.asList(METHODS))));
        for (String method : METHODS) {
            yes("no private method is named like " + method, !names.contains(method.split(" ")[0]));
        }
        int shown = 0;
        for (Field f : LoanHouse.class.getDeclaredFields()) {
            shown += Modifier.isPrivate(f.getModifiers()) ? 0 : 1;
            yes(f.getName() + " is final if it is static", !Modifier.isStatic(f.getModifiers()) || Modifier.isFinal(f.getModifiers()));
        }
        Script.due("fields that are not private", shown, 6);
        Script.due("public fields", LoanHouse.class.getFields().length, 6);
        Script.due("constructors", LoanHouse.class.getDeclaredConstructors().length, 1);
        Script.due("public constructors without parameters", LoanHouse.class.getConstructors()[0].getParameterCount(), 0);
        yes("the class is public and final", LoanHouse.class.getModifiers() == (Modifier.PUBLIC | Modifier.FINAL));
    }

    private static void classesInside() {
        Class<?>[] inside = LoanHouse.class.getDeclaredClasses();
        yes("at most twelve classes", inside.length <= 11);
        for (Class<?> c : inside) {
            yes(c + " is static and not public", Modifier.isStatic(c.getModifiers()) && !Modifier.isPublic(c.getModifiers()) && !Modifier.isProtected(c.getModifiers()));
            for (Field f : c.getDeclaredFields()) {
                yes(f + " is final if it is static", !Modifier.isStatic(f.getModifiers()) || Modifier.isFinal(f.getModifiers()));
            }
        }
    }

    private static void source(Path path) throws Exception {
        String text = Files.readString(path);
        String code = text.replaceAll("(?s)/\\*.*?\\*/", "").replaceAll("//[^\n]*", "");
        yes("the source is there", code.contains("class LoanHouse"));
        for (String word : RULED_OUT) {
            Matcher m = Pattern.compile(word).matcher(code);
            yes("the source has no " + word, !m.find());
        }
        yes("signs are 1 to 127", text.chars().allMatch(c -> c >= 1 && c <= 127));
    }

    private static void yes(String what, boolean is) {
        Script.due(what, is ? 1 : 0, 1);
    }
}

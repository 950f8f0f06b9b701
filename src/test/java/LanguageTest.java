import java.io.IOException;
import java.lang.reflect.Field;
import java.lang.reflect.Method;
import java.lang.reflect.Modifier;
import java.nio.file.Files;
import java.nio.file.Path;
import java.util.ArrayList;
import java.util.LinkedHashMap;
import java.util.List;
import java.util.Map;
import java.util.regex.Matcher;
import java.util.regex.Pattern;

/** The plainest rules of LANGUAGE.md that can be seen in the text of the class, or in its parts. */
public final class LanguageTest {
    private static final Path SOURCE = Path.of("src/main/java/SnowTerm.java");
    private static final String[] NOT_HERE = {
        "->", "::", "\\bimport\\b", "\\bpackage\\b", "\\bprotected\\b", "\\btry\\b", "\\bcatch\\b",
        "\\bfinally\\b", "\\bthrow\\b", "\\bthrows\\b", "\\bsynchronized\\b", "\\bassert\\b",
        "\\bvar\\b", "Exact\\b", "\\bstatic\\s*\\{", "\\b(currentTimeMillis|nanoTime|random)\\b",
        "\\bMath\\.(?!(min|max)\\b)", "\\bInteger\\.(?!bitCount\\b)",
        "\\bSystem\\.(?!arraycopy\\b)", "[^\\x00-\\x7f]",
    };
    /** A method or constructor of the class (four spaces) or of one inside it (eight). */
    private static final Pattern HEAD =
            Pattern.compile("^( {4}| {8})(?! )[\\w\\[\\] ]*?\\b(\\w+)\\(([^)]*)\\) \\{$");
    private static final Pattern CALL = Pattern.compile("\\b(?!switch|if|for|while|return)(\\w+)\\(");
    private static final Check CHECK = new Check("LanguageTest");

    private static void holds(String rule, boolean is) {
        CHECK.due(rule, is ? 1 : 0, 1);
    }

    private static String withoutComments(String text) {
        return text.replaceAll("(?s)/\\*.*?\\*/", "").replaceAll("//[^\n]*", "");
    }

    /** The rows of each method; methods of one name are taken together. */
    private static Map<String, List<String>> rowsByMethod(String code) {
        Map<String, List<String>> rows = new LinkedHashMap<>();
        String name = "";
        String end = "";
        int since = 0;
        int line = 0;
        for (String row : code.split("\n")) {
            line++;
            Matcher head = HEAD.matcher(row);
            if (name.isEmpty() && head.matches()) {
                name = head.group(2);
                end = head.group(1) + "}";
                since = line;
                rows.putIfAbsent(name, new ArrayList<>());
                holds("11: " + name + " takes seven at most", head.group(3).split(",").length <= 7);
            } else if (!name.isEmpty() && row.equals(end)) {
                holds("11: " + name + " has sixty lines at most", line - since <= 60);
                name = "";
            } else if (!name.isEmpty()) {
                rows.get(name).add(row);
            }
        }
        return rows;
    }

    /** How many calls stand open at most below and with this one, the library's among them. */
    private static int depthOf(String name, Map<String, List<String>> rows, int above) {
        int below = 0;
        if (above > 20) {
            return above;
        }
        for (String row : rows.getOrDefault(name, List.of())) {
            Matcher m = CALL.matcher(row);
            while (m.find()) {
                below = Math.max(below, depthOf(m.group(1), rows, above + 1));
            }
        }
        return 1 + below;
    }

    private static List<Class<?>> classes() {
        List<Class<?>> all = new ArrayList<>(List.of(SnowTerm.class));
        all.addAll(List.of(SnowTerm.class.getDeclaredClasses()));
        return all;
    }

    /** A method that the text's reader missed would go unjudged. */
    private static void everyMethodIsRead(Map<String, List<String>> rows) {
        for (Class<?> one : classes()) {
            holds("the constructor of " + one.getSimpleName() + " is read", rows.containsKey(one.getSimpleName()));
            for (Method m : one.getDeclaredMethods()) {
                holds(m.getName() + " is read", rows.containsKey(m.getName()));
            }
        }
    }

    private static void callsStayShallow(Map<String, List<String>> rows) {
        for (String name : rows.keySet()) {
            int depth = depthOf(name, rows, 0);
            holds("11: " + name + " calls eight deep at most, it is " + depth, depth <= 8);
        }
    }

    /** All calls of a run live in one room, so rows are made by constructors alone. */
    private static void onlyConstructorsMakeObjects(Map<String, List<String>> rows) {
        List<String> makers = new ArrayList<>();
        for (Class<?> one : classes()) {
            makers.add(one.getSimpleName());
        }
        for (String name : rows.keySet()) {
            boolean makes = rows.get(name).stream().anyMatch(row -> row.matches(".*\\b(new|clone|append)\\b.*"));
            holds("12: " + name + " makes no object", !makes || makers.contains(name));
        }
    }

    private static void classesStaySmall() {
        holds("11: twelve classes at most", classes().size() <= 12);
        for (Class<?> one : classes()) {
            int fields = 0;
            for (Field f : one.getDeclaredFields()) {
                if (Modifier.isStatic(f.getModifiers())) {
                    holds("5: " + f.getName() + " is final", Modifier.isFinal(f.getModifiers()));
                    holds("5: " + f.getName() + " is an int or a text",
                            f.getType() == int.class || f.getType() == String.class);
                } else {
                    fields++;
                }
            }
            holds("11: " + one.getSimpleName() + " has twenty fields at most", fields <= 20);
            holds("1: " + one.getSimpleName() + " is static, if it is inside",
                    one == SnowTerm.class || Modifier.isStatic(one.getModifiers()));
        }
    }

    public static void main(String[] args) throws IOException {
        String code = withoutComments(Files.readString(SOURCE));
        for (String word : NOT_HERE) {
            Matcher m = Pattern.compile(word).matcher(code);
            CHECK.due("times that " + word + " stands there", m.results().count(), 0);
        }
        Map<String, List<String>> rows = rowsByMethod(code);
        everyMethodIsRead(rows);
        callsStayShallow(rows);
        onlyConstructorsMakeObjects(rows);
        classesStaySmall();
        CHECK.end();
    }
}

import java.io.IOException;
import java.nio.file.Files;
import java.nio.file.Path;
import java.util.ArrayList;
import java.util.LinkedHashMap;
import java.util.List;
import java.util.Map;
import java.util.regex.Matcher;
import java.util.regex.Pattern;

/** The plainest rules of LANGUAGE.md that can be seen in the text of the class. */
public final class LanguageTest {
    private static final Path SOURCE = Path.of("src/main/java/SnowTerm.java");
    private static final String[] NOT_HERE = {
        "->", "::", "\\bimport\\b", "\\bpackage\\b", "\\bprotected\\b", "\\btry\\b", "\\bcatch\\b",
        "\\bfinally\\b", "\\bthrow\\b", "\\bthrows\\b", "\\bsynchronized\\b", "\\bassert\\b",
        "\\bvar\\b", "Exact\\b", "\\bstatic\\s*\\{", "\\b(currentTimeMillis|nanoTime|random)\\b",
        "\\bMath\\.(?!(min|max)\\b)", "\\bInteger\\.(?!bitCount\\b)",
        "\\bSystem\\.(?!arraycopy\\b)", "[^\\x00-\\x7f]",
    };

    private static String withoutComments(String text) {
        return text.replaceAll("(?s)/\\*.*?\\*/", "").replaceAll("//[^\n]*", "");
    }

    /** The rows of each method; methods of one name are taken together. */
    private static Map<String, List<String>> rowsByMethod(String code) {
        Map<String, List<String>> rows = new LinkedHashMap<>();
        String name = "";
        String end = "";
        for (String row : code.split("\n")) {
            Matcher m = Pattern.compile("^( {4,8})[\\w\\[\\] ]+? (\\w+)\\([^)]*\\) \\{$").matcher(row);
            if (name.isEmpty() && m.matches()) {
                name = m.group(2);
                end = m.group(1) + "}";
                rows.putIfAbsent(name, new ArrayList<>());
            } else if (row.equals(end)) {
                name = "";
            } else if (!name.isEmpty()) {
                rows.get(name).add(row);
            }
        }
        return rows;
    }

    /** How many calls stand open at most below and with this one, the library's among them. */
    private static int depthOf(String name, Map<String, List<String>> rows, int above) {
        int below = 0;
        if (above > 20) {
            return above;
        }
        for (String row : rows.getOrDefault(name, List.of())) {
            Matcher m = Pattern.compile("\\b(?!switch|if|for|while|return)(\\w+)\\(").matcher(row);
            while (m.find()) {
                below = Math.max(below, depthOf(m.group(1), rows, above + 1));
            }
        }
        return 1 + below;
    }

    private static void checkDepth(Check check, String code) {
        Map<String, List<String>> rows = rowsByMethod(code);
        check.due("digest is among the methods", rows.containsKey("digest") ? 1 : 0, 1);
        for (String name : rows.keySet()) {
            int depth = depthOf(name, rows, 0);
            check.due(name + " calls eight deep at most, it is " + depth, depth <= 8 ? 1 : 0, 1);
        }
    }

    private static void checkMethods(Check check, String code) {
        int since = 0;
        int line = 0;
        String name = "";
        for (String row : code.split("\n")) {
            line++;
            Matcher m = Pattern.compile("^ {4,8}[\\w\\[\\] ]+?(\\w+)\\(([^)]*)\\) \\{$").matcher(row);
            if (m.matches()) {
                name = m.group(1);
                since = line;
                check.due(name + " takes seven at most", m.group(2).split(",").length <= 7 ? 1 : 0, 1);
            }
            if (row.matches("^ {4}( {4})?\\}$") && !name.isEmpty()) {
                check.due(name + " has sixty lines at most", line - since <= 60 ? 1 : 0, 1);
            }
        }
    }

    public static void main(String[] args) throws IOException {
        Check check = new Check("LanguageTest");
        String code = withoutComments(Files.readString(SOURCE));
        for (String word : NOT_HERE) {
            Matcher m = Pattern.compile(word).matcher(code);
            check.due("times that " + word + " stands there", m.results().count(), 0);
        }
        checkMethods(check, code);
        checkDepth(check, code);
        check.end();
    }
}

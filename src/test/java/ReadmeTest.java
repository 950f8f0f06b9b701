import java.io.IOException;
import java.lang.reflect.Method;
import java.lang.reflect.Modifier;
import java.nio.file.Files;
import java.nio.file.Path;
import java.util.regex.Matcher;
import java.util.regex.Pattern;

/** README.md tells how to use the class: what it says of each call must be what the call answers. */
public final class ReadmeTest {
    private static final Pattern CITY = Pattern.compile("for \\(char c : \"([^\"]*)\"");
    private static final Pattern CALL = Pattern.compile("(?m)^x\\.(\\w+)\\(([^)]*)\\); *// (-?\\d+)");
    private static final Check CHECK = new Check("ReadmeTest");

    private static int[] numbersOf(String told) {
        String[] words = told.isEmpty() ? new String[0] : told.split(", *");
        int[] numbers = new int[words.length];
        for (int i = 0; i < words.length; i++) {
            numbers[i] = Integer.parseInt(words[i]);
        }
        return numbers;
    }

    private static void answersAreAsTold(String text) {
        SnowTerm x = new SnowTerm();
        Matcher city = CITY.matcher(text);
        CHECK.due("a city is written", city.find() ? 1 : 0, 1);
        Check.write(x, city.group(1));
        int calls = 0;
        for (Matcher m = CALL.matcher(text); m.find(); calls++) {
            int[] a = numbersOf(m.group(2));
            CHECK.due(Calls.told(m.group(1), a), Calls.answer(x, m.group(1), a), Long.parseLong(m.group(3)));
        }
        CHECK.due("each row of the example is a call with its answer", calls, text.split("\nx\\.").length - 1);
        CHECK.due("there are calls", calls > 0 ? 1 : 0, 1);
    }

    private static void eachCallHasItsRow(String text) {
        for (Method m : SnowTerm.class.getDeclaredMethods()) {
            if (Modifier.isPublic(m.getModifiers())) {
                Matcher row = Pattern.compile("(?m)^\\| `" + m.getName() + "\\(([^)]*)\\)` \\|").matcher(text);
                CHECK.due(m.getName() + " has a row", row.find() ? 1 : 0, 1);
                String names = row.group(1);
                int many = names.isEmpty() ? 0 : names.split(", ").length;
                CHECK.due("arguments of " + m.getName(), many, m.getParameterCount());
            }
        }
    }

    public static void main(String[] args) throws IOException {
        String text = Files.readString(Path.of("README.md"));
        answersAreAsTold(text);
        eachCallHasItsRow(text);
        CHECK.end();
    }
}

import java.io.IOException;
import java.nio.file.Files;
import java.nio.file.Path;
import java.util.regex.Matcher;
import java.util.regex.Pattern;

/** The README's example answers what it says there, and the README's constants are those of the class. */
public final class ReadmeTest {
    private static final Pattern CALL = Pattern.compile("stores\\.(\\w+\\([^()]*\\))\\); *// (-?\\d+)");
    private static final Pattern SIGN = Pattern.compile("'(.)'");
    private static final Checks c = new Checks("ReadmeTest");

    public static void main(String[] args) throws IOException {
        String readme = Files.readString(Path.of("README.md"));
        example(readme);
        constant(readme, "INVALID_ARGUMENT", SealedStores.INVALID_ARGUMENT);
        constant(readme, "NOT_POSSIBLE", SealedStores.NOT_POSSIBLE);
        constant(readme, "LIMIT_REACHED", SealedStores.LIMIT_REACHED);
        constant(readme, "NOT_FOUND", SealedStores.NOT_FOUND);
        c.end();
    }

    private static void example(String readme) {
        SealedStores stores = new SealedStores();
        int made = 0;
        for (String line : readme.split("\n")) {
            if (!line.contains("stores.")) {
                continue;
            }
            Matcher call = CALL.matcher(line);
            boolean told = call.find();
            c.holds(told, "a call with its answer: " + line);
            if (told) {
                int answer = new Call(inNumbers(call.group(1))).on(stores);
                c.holds(answer == Integer.parseInt(call.group(2)), line + " answered " + answer);
                made++;
            }
        }
        c.holds(made > 0, "the README has an example");
    }

    private static String inNumbers(String call) {
        return SIGN.matcher(call).replaceAll(sign -> String.valueOf((int) sign.group(1).charAt(0)));
    }

    private static void constant(String readme, String name, int value) {
        c.holds(readme.contains("| `" + name + "` | " + value + " |"), "the README tells " + name);
    }
}

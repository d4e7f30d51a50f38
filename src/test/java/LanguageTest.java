import java.io.IOException;
import java.nio.file.Files;
import java.nio.file.Path;
import java.util.regex.Matcher;
import java.util.regex.Pattern;

/** The rules of LANGUAGE.md that can be seen in the program's text. */
public final class LanguageTest {
    private static final String[] FORBIDDEN = {"\\bthrow\\b", "\\btry\\b", "\\bcatch\\b", "\\bsynchronized\\b",
        "\\bassert\\b", "\\bimport\\b", "\\bpackage\\b", "->", "::", "\\bdouble\\b", "\\bfloat\\b", "Exact\\b",
        "\\bObject\\b", "\\bequals\\b", "\\bhashCode\\b", "\\btoString\\b", "\\bprotected\\b", "\\bvolatile\\b",
        "static \\{", "\\bRandom\\b", "System\\.(?!arraycopy)", "Math\\.(?!min\\b|max\\b)", "Integer\\.", "Long\\.",
        "\" *\\+", "\\+ *\"", "[^\\x00-\\x7f]", "\\bwhile \\(true\\)", "\\bpublic static (?!final int)"};
    private static final Checks c = new Checks("LanguageTest");

    public static void main(String[] args) throws IOException {
        String program = Files.readString(Path.of("src/main/java/SealedStores.java"));
        String code = program.replaceAll("(?s)/\\*.*?\\*/", "").replaceAll("//[^\n]*", "");
        for (String pattern : FORBIDDEN) {
            Matcher found = Pattern.compile(pattern).matcher(code);
            c.holds(!found.find(), "no " + pattern + " in the program");
        }
        staticFieldsAreFinal(code);
        methodsAreShort(code);
        c.end();
    }

    private static void staticFieldsAreFinal(String code) {
        Matcher field = Pattern.compile("static [^({]*[;=]").matcher(code);
        while (field.find()) {
            c.holds(field.group().startsWith("static final"), field.group() + " is final");
        }
    }

    private static void methodsAreShort(String code) {
        int start = 0;
        String[] lines = code.split("\n", -1);
        for (int i = 0; i < lines.length; i++) {
            if (lines[i].matches(" {4}( {4})?[a-z].*\\) \\{")) {
                start = i;
            }
            if (lines[i].matches(" {4}( {4})?\\}")) {
                c.holds(i - start < 60 || lines[i].startsWith("    }"), "short: " + lines[start]);
            }
            c.holds(lines[i].length() <= 120, "line " + (i + 1) + " is short");
        }
    }
}

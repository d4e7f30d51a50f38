import java.io.IOException;
import java.nio.file.Files;
import java.nio.file.Path;
import java.util.LinkedHashMap;
import java.util.Map;

/** The document's sections, and which of their sentences a test has named. */
final class Document {
    private final Checks checks;
    private final Map<String, StringBuilder> sections = new LinkedHashMap<>();
    private final Map<String, boolean[]> named = new LinkedHashMap<>();

    Document(Checks checks, Path path) throws IOException {
        this.checks = checks;
        StringBuilder section = new StringBuilder();
        for (String line : Files.readAllLines(path)) {
            if (line.startsWith("## ")) {
                section = new StringBuilder();
                sections.put(line.substring(3).replaceAll(":.*", ""), section);
            } else if (!line.startsWith("#") && !line.startsWith("Ahead of the calls ")) {
                section.append(line.replaceAll("^`(int |SealedStores)[^`]*`: ", "")).append('\n');
            }
        }
        for (Map.Entry<String, StringBuilder> each : sections.entrySet()) {
            named.put(each.getKey(), new boolean[each.getValue().length()]);
        }
    }

    void name(String section, String sentence) {
        StringBuilder text = sections.get(section);
        checks.holds(text != null && text.indexOf(sentence) >= 0, section + " does not say: " + sentence);
        if (text == null) {
            return;
        }
        for (int at = text.indexOf(sentence); at >= 0; at = text.indexOf(sentence, at + 1)) {
            for (int i = 0; i < sentence.length(); i++) {
                named.get(section)[at + i] = true;
            }
        }
    }

    /** Every word of the terms and of the promises has to stand in a sentence that some test named. */
    void allIsNamed() {
        checks.holds(sections.containsKey("Terms") && sections.containsKey("Promise 29"), "the document is whole");
        for (String section : sections.keySet()) {
            if (section.equals("Terms") || section.startsWith("Promise ")) {
                allIsNamed(section);
            }
        }
    }

    private void allIsNamed(String section) {
        StringBuilder text = sections.get(section);
        StringBuilder rest = new StringBuilder();
        for (int i = 0; i <= text.length(); i++) {
            if (i < text.length() && !named.get(section)[i]) {
                rest.append(text.charAt(i));
            } else {
                boolean words = rest.toString().matches("(?s).*[A-Za-z0-9].*");
                checks.holds(!words, section + ": no test names: " + rest);
                rest.setLength(0);
            }
        }
    }
}

import java.io.IOException;
import java.nio.file.Files;
import java.nio.file.Path;
import java.util.Arrays;
import java.util.LinkedHashMap;
import java.util.Map;

/**
 * The document's sentences, and which of them have a test: each test quotes its words, so that words which no
 * test quotes, and quotes which the document does not have, are faults.
 */
final class Sentences {
    private static final Path DOCUMENT = Path.of("..", "shared", "DOC.md");

    private final Checks checks;
    private final Map<String, String> sections = new LinkedHashMap<>();
    private final Map<String, boolean[]> quoted = new LinkedHashMap<>();

    Sentences(Checks checks) {
        this.checks = checks;
        if (Files.isReadable(DOCUMENT)) {
            read();
        } else {
            System.out.println("no document at " + DOCUMENT + ": whether its sentences all have tests is not looked at");
        }
    }

    /** The checks that follow are the test of these words. */
    void test(String section, String words) {
        checks.about(section + ": " + words);
        quote(section, words);
    }

    /** Words that name no case which could be met or missed. */
    void noBoundary(String section, String words) {
        checks.about("");
        quote(section, words);
    }

    void allHaveTests() {
        checks.about("");
        for (Map.Entry<String, String> section : sections.entrySet()) {
            boolean[] marks = quoted.get(section.getKey());
            StringBuilder left = new StringBuilder();
            for (int i = 0; i < marks.length; i++) {
                left.append(marks[i] ? "" : section.getValue().charAt(i));
            }
            checks.holds(section.getKey() + " has tests, but for \"" + left.toString().trim() + "\": this",
                    left.toString().isBlank());
        }
    }

    private void quote(String section, String words) {
        if (sections.isEmpty()) {
            return;
        }
        String text = sections.getOrDefault(section, "");
        int from = text.indexOf(words);
        checks.holds("the document's section " + section + " says: " + words + ": this", from >= 0);
        if (from >= 0) {
            Arrays.fill(quoted.get(section), from, from + words.length(), true);
        }
    }

    private void read() {
        String name = "";
        try {
            for (String line : Files.readAllLines(DOCUMENT)) {
                if (line.startsWith("## ")) {
                    name = line.substring(3).replaceFirst("(Promise \\d+):.*", "$1");
                } else if (!name.isEmpty() && !name.equals("The public face")) {
                    // A promise begins with its call, which FaceTest looks at.
                    String words = line.replaceFirst("^`[^`]*`: ", "").trim();
                    sections.merge(name, words, (before, next) -> (before + " " + next).trim());
                }
            }
        } catch (IOException e) {
            checks.holds("the document can be read: " + e + ": this", false);
        }
        sections.forEach((section, text) -> quoted.put(section, new boolean[text.length()]));
    }
}

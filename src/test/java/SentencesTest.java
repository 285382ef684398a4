import java.io.IOException;
import java.nio.file.Files;
import java.nio.file.Path;
import java.util.ArrayList;
import java.util.LinkedHashMap;
import java.util.List;
import java.util.Map;
import java.util.regex.Pattern;

/**
 * That no sentence of the document goes without a test: every word of 'Terms' and of the promises
 * is quoted by a test of its own, and what the tests quote stands in the document.
 */
final class SentencesTest {
    private static final Path DOCUMENT = Path.of("..", "shared", "DOC.md");

    public static void main(String[] args) throws IOException {
        if (!Files.exists(DOCUMENT)) {
            System.out.println("no " + DOCUMENT + " here: the quotes are not held against it");
            return;
        }
        runAll();
        Map<String, String> sections = sections(Files.readAllLines(DOCUMENT));
        List<String> faults = new ArrayList<>();
        for (Checks.Quote quote : Checks.QUOTED) {
            String left = sections.getOrDefault(quote.section(), "");
            if (!left.contains(quote.words())) {
                faults.add(quote.section() + " does not say: " + quote.words());
            }
            // A mark is left behind, so that what stood around the words does not join.
            sections.put(quote.section(), left.replaceFirst(Pattern.quote(quote.words()), "|"));
        }
        sections.forEach((section, left) -> {
            boolean binds = section.equals("Terms") || section.startsWith("Promise");
            if (binds && !left.replaceAll("[|\\s]", "").isEmpty()) {
                faults.add(section + " says, and no test quotes: " + left);
            }
        });
        if (sections.keySet().stream().filter(s -> s.startsWith("Promise")).count() != 16) {
            faults.add("there are not 16 promises");
        }
        faults.forEach(System.out::println);
        if (!faults.isEmpty()) {
            System.exit(1);
        }
    }

    private static void runAll() {
        String[] none = {};
        TermsTest.main(none);
        DesksTest.main(none);
        SignsTest.main(none);
        PassagesTest.main(none);
        OrdersTest.main(none);
        ScribesTest.main(none);
        DifferTest.main(none);
        ChronicleTest.main(none);
    }

    /** The text of each section in one line, without the head that FaceTest asks. */
    private static Map<String, String> sections(List<String> lines) {
        Map<String, String> sections = new LinkedHashMap<>();
        String section = "";
        for (String line : lines) {
            if (line.startsWith("## ")) {
                section = line.substring(3).replaceFirst("^(Promise \\d+):.*", "$1");
            } else {
                String text = line.replaceFirst("^`[^`]*`:", "").trim();
                sections.merge(section, text, (old, more) -> (old + " " + more).trim());
            }
        }
        return sections;
    }
}

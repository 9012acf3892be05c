import java.io.IOException;
import java.nio.charset.StandardCharsets;
import java.nio.file.Files;
import java.nio.file.Path;
import java.util.ArrayList;
import java.util.LinkedHashMap;
import java.util.List;
import java.util.Map;

/**
 * The tests of the document's sentences: each names the section and the words that it holds. Held
 * against the document itself, so that no sentence is left without a test, and no test quotes what
 * the document does not say.
 */
final class Sentences {
    interface Test {
        void run(Check check);
    }

    private record Held(String section, String quote, Test test) {
    }

    private static final Path DOCUMENT = Path.of("../shared/DOC.md");
    private static final String SAYS = "the document says";
    private static final List<String> HEADINGS_WITHOUT_MARK = List.of("Signs, writings", "Paper, judges");
    private static final List<String> SECTIONS_WITHOUT_PROMISE = List.of("InkRing", "The public face", "Not promised");
    private static final List<String> NAMING_NO_BOUND = List.of("An arena of calligraphy:", "Ahead of the calls");

    private final List<Held> all = new ArrayList<>();
    private String section = "";

    void in(String nextSection) {
        section = nextSection;
    }

    /** A test of a sentence, or of that part of it which is quoted. */
    void holds(String quote, Test test) {
        all.add(new Held(section, quote, test));
    }

    void runAll(Check check) {
        for (Held each : all) {
            check.about(each.section + ", \"" + each.quote + "\"");
            int before = check.count();
            check.due("its test comes to its end", Check.NOTHING, Check.act(() -> each.test.run(check)));
            check.same("its test looks at an answer", true, check.count() > before + 1);
        }
        check.about(SAYS);
    }

    /** Every sentence has a test, and every quotation stands in the document. */
    void heldAgainstTheDocument(Check check) throws IOException {
        if (!Files.exists(DOCUMENT)) {
            System.out.println(DOCUMENT + " is not here: whether every sentence has a test was not looked at");
            return;
        }
        Map<String, List<String>> document = sentences(Files.readAllLines(DOCUMENT, StandardCharsets.UTF_8));
        for (Map.Entry<String, List<String>> part : document.entrySet()) {
            for (String sentence : part.getValue()) {
                check.same(part.getKey() + ": " + sentence + ": is held by a test", true, isHeld(part.getKey(), sentence));
            }
        }
        for (Held each : all) {
            boolean stands = document.getOrDefault(each.section, List.of()).stream().anyMatch(s -> s.contains(each.quote));
            check.same(each.section + ": " + each.quote, true, stands);
        }
    }

    private boolean isHeld(String inSection, String sentence) {
        for (String start : NAMING_NO_BOUND) {
            if (sentence.startsWith(start)) {
                return true;
            }
        }
        for (Held each : all) {
            if (each.section.equals(inSection) && sentence.contains(each.quote)) {
                return true;
            }
        }
        return false;
    }

    private static Map<String, List<String>> sentences(List<String> lines) {
        Map<String, List<String>> found = new LinkedHashMap<>();
        String heading = "";
        for (String line : lines) {
            if (line.startsWith("#") || HEADINGS_WITHOUT_MARK.contains(line)) {
                heading = line.replaceFirst("^#+ ", "");
            } else if (!line.isBlank() && !SECTIONS_WITHOUT_PROMISE.contains(heading)) {
                for (String sentence : line.split("(?<=\\.) +(?=[A-Z])")) {
                    found.computeIfAbsent(heading, k -> new ArrayList<>()).add(sentence);
                }
            }
        }
        return found;
    }
}

import java.nio.file.Files;
import java.nio.file.Path;
import java.util.List;
import java.util.Map;
import java.util.TreeMap;
import java.util.regex.Matcher;
import java.util.regex.Pattern;

/**
 * Each sentence of the document that names a boundary case has a test of its own, under its own words;
 * the document is read, too, so that no finding that a promise tells stays without one.
 */
public final class EdgeTest extends Edges {
    private static final Path DOCUMENT = Path.of("../shared/DOC.md");

    private EdgeTest() {
    }

    /** The document's text by promises; what stands ahead of them is TERMS. */
    private static Map<Integer, String> sections() throws Exception {
        Map<Integer, String> sections = new TreeMap<>();
        String[] parts = Files.readString(DOCUMENT).replaceAll("\\s+", " ").split("## (?=Promise \\d|Not promised)");
        sections.put(TERMS, parts[0]);
        for (String part : parts) {
            Matcher m = Pattern.compile("^Promise (\\d+):").matcher(part);
            if (m.find()) {
                sections.put(Integer.parseInt(m.group(1)), part);
            }
        }
        return sections;
    }

    private static void lookAtSentences() throws Exception {
        Map<Integer, String> sections = sections();
        for (Map.Entry<Integer, String> section : sections.entrySet()) {
            int promise = section.getKey();
            // Of sight() the word KIND is the term, not the finding.
            String rest = section.getValue().replace("of a KIND:", " ");
            List<String> tested = TESTED.getOrDefault(promise, List.of());
            for (String words : tested) {
                if (!section.getValue().contains(words)) {
                    told("promise " + promise + " doesn't say: " + words);
                }
                rest = rest.replace(words, " ");
            }
            if (promise != TERMS && Pattern.compile("\\b(BEYOND|NONE|KIND|FULL|SIZE)\\b").matcher(rest).find()) {
                told("promise " + promise + " has a finding without a test: " + rest);
            }
        }
        if (sections.size() != 33) {
            told("the document has " + (sections.size() - 1) + " promises, not 32");
        }
    }

    private static void told(String text) {
        wrong++;
        System.out.println(text);
    }

    public static void main(String[] args) throws Exception {
        TermEdges.all();
        StarEdges.all();
        SightEdges.all();
        WorkedEdges.all();
        ToldEdges.all();
        endSentence();
        lookAtSentences();
        long sentences = TESTED.values().stream().mapToInt(List::size).sum();
        System.out.println(wrong == 0 ? asked + " answers under " + sentences + " sentences are as due"
                : wrong + " of " + asked + " answers are not as due");
        if (wrong != 0) {
            System.exit(1);
        }
    }
}

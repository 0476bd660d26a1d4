import java.nio.file.Files;
import java.nio.file.Path;
import java.util.List;
import java.util.Map;
import java.util.TreeMap;
import java.util.regex.Matcher;
import java.util.regex.Pattern;

/**
 * Each sentence of the document has a test of its own, under its own words; the document is read, too,
 * so that no sentence of the terms or of a promise stays without one.
 */
public final class DocumentTest extends Edges {
    private static final Path DOCUMENT = Path.of("../shared/DOC.md");
    /** What stands ahead of the terms and behind them: a summary, and what FaceTest looks at. */
    private static final String[] OTHER = {
        "^.*?## What it is .*? in whole numbers and exact fractions\\.",
        "what later calls answer is free\\.",
        "## The public face ```java .*? ```",
        "## Terms",
        "```text",
        "Ahead of the calls [a-z`, ]* the interface says: ---- [a-z ]*\\.",
    };

    private DocumentTest() {
    }

    /** The document's text by promises; what stands ahead of them is TERMS. */
    private static Map<Integer, String> sections() throws Exception {
        Map<Integer, String> sections = new TreeMap<>();
        String[] parts = Files.readString(DOCUMENT).replaceAll("\\s+", " ").split("## (?=Promise \\d|Not promised)");
        sections.put(TERMS, parts[0]);
        for (String part : parts) {
            Matcher m = Pattern.compile("^Promise (\\d+):").matcher(part);
            if (m.find()) {
                sections.put(Integer.parseInt(m.group(1)), part);
            }
        }
        return sections;
    }

    /** A section without what needs no test of its own: a promise's heading and its act's form. */
    private static String words(int promise, String section) {
        if (promise != TERMS) {
            return section.replaceFirst("^Promise \\d+: [a-zA-Z ]+ `[^`]*`:", " ");
        }
        String rest = section;
        for (String other : OTHER) {
            rest = rest.replaceAll(other, " ");
        }
        return rest;
    }

    private static void lookAtSentences() throws Exception {
        Map<Integer, String> sections = sections();
        for (Map.Entry<Integer, String> section : sections.entrySet()) {
            int promise = section.getKey();
            String rest = words(promise, section.getValue());
            for (String words : TESTED.getOrDefault(promise, List.of())) {
                if (!section.getValue().contains(words)) {
                    told("promise " + promise + " doesn't say: " + words);
                }
                rest = rest.replace(words, " # ");
            }
            if (Pattern.compile("[a-zA-Z0-9]").matcher(rest).find()) {
                told("promise " + promise + " has words without a test: " + rest);
            }
        }
        if (sections.size() != 33) {
            told("the document has " + (sections.size() - 1) + " promises, not 32");
        }
    }

    private static void told(String text) {
        wrong++;
        System.out.println(text);
    }

    public static void main(String[] args) throws Exception {
        TermEdges.all();
        PlateTerms.all();
        SkyTerms.all();
        ActWords.all();
        StarEdges.all();
        SightEdges.all();
        WorkedEdges.all();
        ToldEdges.all();
        endSentence();
        lookAtSentences();
        long sentences = TESTED.values().stream().mapToInt(List::size).sum();
        System.out.println(wrong == 0 ? asked + " answers under " + sentences + " sentences are as due"
                : wrong + " of " + asked + " answers are not as due");
        if (wrong != 0) {
            System.exit(1);
        }
    }
}

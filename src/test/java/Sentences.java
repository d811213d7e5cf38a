import java.io.IOException;
import java.nio.file.Files;
import java.nio.file.Path;
import java.util.ArrayList;
import java.util.LinkedHashMap;
import java.util.List;
import java.util.Map;

/**
 * Tests that bear the words of the document. Each one is named by a heading and by words that stand under it exactly
 * once; at the end, every sentence (and every part of one between semicolons) has to have a test.
 */
final class Sentences {
    private static final Path DOCUMENT = Path.of("../shared/DOC.md");

    /** The words under a heading, its sentences, and which of them have a test. */
    private static final class Part {
        final StringBuilder words = new StringBuilder();
        final List<int[]> sentences = new ArrayList<>();
        final List<int[]> tested = new ArrayList<>();

        void add(String paragraph) {
            String folded = paragraph.trim().replaceAll("\\s+", " ");
            for (String sentence : folded.split("(?<=[.;]) ")) {
                int from = words.length();
                words.append(sentence).append(' ');
                sentences.add(new int[] {from, words.length() - 1});
            }
        }

        boolean hasTest(int[] sentence) {
            for (int[] t : tested) {
                if (t[0] < sentence[1] && sentence[0] < t[1]) {
                    return true;
                }
            }
            return false;
        }
    }

    private final Check check;
    private final Map<String, Part> parts = new LinkedHashMap<>();
    private String heading = "";
    private int tests = 0;

    Sentences(Check check) throws IOException {
        this.check = check;
        Part part = new Part();
        StringBuilder paragraph = new StringBuilder();
        boolean code = false;
        for (String line : Files.readAllLines(DOCUMENT)) {
            String name = headingOf(line);
            boolean fence = line.startsWith("```");
            code ^= fence;
            if (name != null || line.isBlank() || line.startsWith("- `") || line.startsWith("Examples:")) {
                addTo(part, paragraph);
            }
            if (name != null || line.startsWith("Examples:")) {
                part = new Part();
                parts.put(name == null ? "Examples" : name, part);
            } else if (!code && !fence && !line.startsWith("`") && !line.startsWith("----")) {
                paragraph.append(line).append('\n');
            }
        }
        addTo(part, paragraph);
    }

    /** The heading that a line is, or null. The parts of the description have theirs in capitals. */
    private static String headingOf(String line) {
        if (line.startsWith("#")) {
            return line.replaceFirst("^#+ ", "");
        }
        return line.matches("[A-Z]{2}[A-Z ]+") ? line : null;
    }

    private static void addTo(Part part, StringBuilder paragraph) {
        if (!paragraph.toString().isBlank()) {
            part.add(paragraph.toString());
        }
        paragraph.setLength(0);
    }

    /** From here on the tests are of sentences under this heading: its whole text, or "Promise 2" alone. */
    void under(String name) {
        for (String whole : parts.keySet()) {
            if (whole.equals(name) || whole.startsWith(name + ":")) {
                heading = whole;
                return;
            }
        }
        check.holds("the document has the heading " + name, false);
    }

    void test(String words, Runnable test) {
        Part part = parts.getOrDefault(heading, new Part());
        int at = part.words.indexOf(words);
        check.holds(heading + " says once: " + words, at >= 0 && part.words.indexOf(words, at + 1) < 0);
        part.tested.add(new int[] {at, at + words.length()});
        int wrong = check.wrong();
        test.run();
        tests++;
        if (check.wrong() > wrong) {
            System.out.println("  .. which breaks " + heading + ": " + words);
        }
    }

    /** Looks whether a sentence has been left out under one of the headings that bind. */
    void end() {
        int sentences = 0;
        for (Map.Entry<String, Part> e : parts.entrySet()) {
            String name = e.getKey();
            boolean binds = name.startsWith("Promise ") || headingOf(name) != null;
            for (int[] sentence : e.getValue().sentences) {
                if (binds) {
                    sentences++;
                    String words = e.getValue().words.substring(sentence[0], sentence[1]);
                    check.holds("there is a test of " + name + ": " + words, e.getValue().hasTest(sentence));
                }
            }
        }
        check.holds("the document has its sentences", sentences > 200);
        System.out.println(tests + " tests of " + sentences + " sentences");
    }
}

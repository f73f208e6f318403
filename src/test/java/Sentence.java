import java.io.IOException;
import java.io.UncheckedIOException;
import java.nio.file.Files;
import java.nio.file.Path;
import java.util.LinkedHashMap;
import java.util.Map;

/** The sentences of the document, and which of them have a test of their own. */
final class Sentence {
    private static final Path DOCUMENT = Path.of("../shared/DOC.md");
    private static final char QUOTED = '\0';
    private static final Map<String, String> SECTIONS = read();
    private static final Map<String, StringBuilder> LEFT = new LinkedHashMap<>();
    private static String latest = "";
    private static int madeBefore;

    private Sentence() {
    }

    /** Begins the test of a sentence: the answers that follow are about it. */
    static void of(String section, String words) {
        endLatest();
        latest = section + ", \"" + words + "\"";
        madeBefore = Check.made() + 1;
        Check.begin(latest);
        int at = SECTIONS.getOrDefault(section, "").indexOf(words);
        Check.holds("stands in the document", at >= 0);
        StringBuilder left = LEFT.computeIfAbsent(section, name -> new StringBuilder(SECTIONS.getOrDefault(name, "")));
        for (int place = at; at >= 0 && place < at + words.length(); place++) {
            left.setCharAt(place, QUOTED);
        }
    }

    private static void endLatest() {
        Check.holds(latest + " is followed by answers", latest.isEmpty() || Check.made() > madeBefore);
    }

    /** Looks whether a section has words that no test has quoted. */
    static void endSection(String section) {
        endLatest();
        latest = "";
        Check.begin("the section " + section);
        Check.holds("is tested", LEFT.containsKey(section));
        for (String words : String.valueOf(LEFT.get(section)).split(QUOTED + "+")) {
            Check.holds("has a test for \"" + words.trim() + "\"", words.chars().noneMatch(Character::isLetterOrDigit));
        }
    }

    /** The text below each heading, by what stands ahead of the heading's colon. */
    private static Map<String, String> read() {
        Map<String, String> sections = new LinkedHashMap<>();
        String section = "";
        try {
            for (String line : Files.readAllLines(DOCUMENT)) {
                if (line.startsWith("#")) {
                    section = line.replaceAll("^#+ |:.*", "");
                } else if (!line.startsWith("Ahead of the calls ")) {
                    // What the interface says ahead of its calls is no promise about an answer.
                    sections.merge(section, line + "\n", String::concat);
                }
            }
        } catch (IOException failure) {
            throw new UncheckedIOException(failure);
        }
        return sections;
    }
}

import java.io.IOException;
import java.nio.file.Files;
import java.nio.file.Path;
import java.util.LinkedHashMap;
import java.util.Map;
import java.util.Set;

/** A test for each sentence of the document, and that no sentence of it is left out. */
public final class SentencesTest {
    private static final Path DOCUMENT = Path.of("../shared/DOC.md");
    /** FaceTest looks at the face; the last section and the titles promise nothing. */
    private static final Set<String> WITHOUT_SENTENCES = Set.of("PermitWeave", "The public face", "Not promised");

    private SentencesTest() {
    }

    private static Sentences tested() {
        Sentences s = new Sentences();
        TermSentences.tell(s);
        LaneTermSentences.tell(s);
        PermitTermSentences.tell(s);
        DigTermSentences.tell(s);
        RoadSentences.tell(s);
        PermitSentences.tell(s);
        HourSentences.tell(s);
        return s;
    }

    /** The sentences whose tests fail, told by heading and words. */
    static Set<String> broken() {
        return tested().broken();
    }

    /** The text under each heading, without what a heading, a signature or a bullet puts before its sentences. */
    private static Map<String, String> sections() throws IOException {
        Map<String, String> sections = new LinkedHashMap<>();
        String heading = "";
        for (String line : Files.readAllLines(DOCUMENT)) {
            if (line.startsWith("#")) {
                heading = line.replaceFirst("#+ ", "");
            } else if (!line.startsWith("Ahead of the calls")) {
                String text = line.replaceFirst("^(- |`(int|long|boolean) .*?`: |`PermitWeave\\(\\)`: )", "");
                sections.merge(heading, text, (before, after) -> before + "\n" + after);
            }
        }
        return sections;
    }

    /** What is left of a section when all that is quoted of it is taken away, and what stood between quoted parts. */
    private static String leftOf(String section, Iterable<String> quoted, Sentences s, String heading) {
        String left = section;
        for (String words : quoted) {
            s.due().is(heading + " says \"" + words + "\"", section.contains(words), true);
            left = left.replace(words, "");
        }
        return left.replaceAll("[\\s,;:.]+", " ").strip();
    }

    private static void noSentenceIsLeftOut(Sentences s) throws IOException {
        Map<String, String> sections = sections();
        for (String heading : s.headings()) {
            s.due().is("the document has \"" + heading + "\"", sections.containsKey(heading), true);
        }
        for (Map.Entry<String, String> section : sections.entrySet()) {
            String heading = section.getKey();
            if (!WITHOUT_SENTENCES.contains(heading)) {
                String left = leftOf(section.getValue(), s.quotedUnder(heading), s, heading);
                s.due().is("what no test quotes of \"" + heading + "\"", left, "");
            }
        }
    }

    public static void main(String[] args) throws IOException {
        Sentences s = tested();
        noSentenceIsLeftOut(s);
        s.due().end();
    }
}

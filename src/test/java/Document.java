import java.io.IOException;
import java.nio.charset.StandardCharsets;
import java.nio.file.Files;
import java.nio.file.Path;
import java.util.ArrayList;
import java.util.HashSet;
import java.util.List;
import java.util.Set;

/**
 * The document's own words. A test names the sentence that it is about, which must stand there; and
 * at the end no sentence of the parts that a program tests may be left without a test.
 */
final class Document {
    private static final List<String> LINES = lines(Path.of("../shared/DOC.md"));
    private static final Set<String> TESTED = new HashSet<>();
    /** What tells the purpose, or where things stand in the interface: no call could break it. */
    private static final String[] NOTHING_TO_BREAK = {
        "Signal beacons on hills.", "Keepers who see", "All numbers are whole.", "Hills.", "Fires.",
        "Ahead of the calls"};

    private Document() {
    }

    /** The comparisons that follow are about these words, of one sentence of this part. */
    static void says(String part, String words) {
        Expect.about(part + ": " + words);
        for (String sentence : sentencesOf(part)) {
            if (sentence.contains(words)) {
                TESTED.add(part + ": " + sentence);
                return;
            }
        }
        Expect.fail("the document does not say so");
    }

    static void allTested(String part) {
        Expect.about(part);
        List<String> sentences = sentencesOf(part);
        Expect.same("the document has this part", !sentences.isEmpty(), true);
        for (String sentence : sentences) {
            if (!TESTED.contains(part + ": " + sentence)) {
                Expect.fail("no test is about: " + sentence);
            }
        }
    }

    static void allPromisesTested(int first, int last) {
        for (int promise = first; promise <= last; promise++) {
            allTested("Promise " + promise);
        }
    }

    private static List<String> sentencesOf(String part) {
        List<String> sentences = new ArrayList<>();
        boolean inPart = false;
        for (String line : LINES) {
            if (line.startsWith("## ")) {
                inPart = line.equals("## " + part) || line.startsWith("## " + part + ":");
            } else if (inPart) {
                addSentences(line, sentences);
            }
        }
        return sentences;
    }

    private static void addSentences(String line, List<String> sentences) {
        String plain = line.replaceFirst("^`[^`]*`: ", "").trim().replaceFirst("^\\d\\. ", "");
        boolean isFence = plain.startsWith("```");
        boolean isParameterWithoutNumber = plain.matches("- \\D*");
        if (isFence || isParameterWithoutNumber) {
            return;
        }
        for (String sentence : plain.replace("`", "").split("(?<=\\.) ")) {
            if (!sentence.isEmpty() && !startsWithAny(sentence, NOTHING_TO_BREAK)) {
                sentences.add(sentence);
            }
        }
    }

    private static boolean startsWithAny(String text, String[] beginnings) {
        for (String beginning : beginnings) {
            if (text.startsWith(beginning)) {
                return true;
            }
        }
        return false;
    }

    private static List<String> lines(Path where) {
        try {
            return Files.readAllLines(where, StandardCharsets.UTF_8);
        } catch (IOException e) {
            throw new IllegalStateException("cannot read " + where, e);
        }
    }
}

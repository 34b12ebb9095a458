import java.io.IOException;
import java.nio.file.Files;
import java.nio.file.Path;
import java.util.ArrayList;
import java.util.LinkedHashMap;
import java.util.List;
import java.util.Map;
import java.util.Set;
import java.util.regex.Matcher;
import java.util.regex.Pattern;

/**
 * The sentences of ../shared/DOC.md, each with the number of its promise. A test quotes the sentence that
 * it tries; what is no sentence of the document, has no check behind it or is left out is a failure.
 */
final class Document {
    static final int TERMS = 0;

    private static final Path FILE = Path.of("..", "shared", "DOC.md");
    private static final Pattern PROMISE = Pattern.compile("## Promise (\\d+): .*");
    // A number with a period, as in "1. Rent", ends no sentence.
    private static final String BETWEEN_SENTENCES = "(?<=[^0-9]\\.) (?=[A-Z])";

    /** Sentences that tell what something is, and name no boundary of it. */
    private static final Set<String> WITHOUT_BOUNDARY = Set.of(
            "The house is described by a text that is parsed from a byte buffer.",
            "Lodgers pay rent, take lessons from the landlady, imitate the other lodgers of their floor at dinner,"
                    + " and are evicted at a weekly inspection.",
            "All numbers are integers unless a method returns double or float.",
            "The landlady has an accent.",
            // What is a lodger, a floor or a vowel is tried where the exception for another one is named.
            "- `lodger`: a lodger", "- `first`: a lodger", "- `floor`: a floor", "- `vowel`: a vowel",
            "Returns the base rent.", "Returns the tolerance.", "Returns the number of lodgers in the house.",
            "Returns a position of the landlady's accent.", "Returns a position of a lodger's accent.",
            "Returns the floor.", "Returns the floor of a lodger.", "Returns the balance of a lodger.",
            "Returns the length of a lodger's name.", "Returns a letter of a lodger's name.",
            "Returns the letter.", "Returns a lodger of a floor.", "Returns the lodger.", "Returns the sum.",
            "Returns a character of the output buffer.", "Returns the character.");

    private static final Map<String, Boolean> QUOTED = readSentences();
    private static String current = "";
    private static int checksBefore = 0;

    private Document() {
    }

    /** Begins the test of a sentence. */
    static void says(int promise, String sentence) {
        endSentence();
        current = label(promise, sentence);
        Check.under(current);
        checksBefore = Check.count();
        if (!QUOTED.containsKey(current)) {
            Check.equal("a sentence of the document", false, true);
        }
        QUOTED.put(current, true);
    }

    private static void endSentence() {
        if (!current.isEmpty() && Check.count() == checksBefore) {
            Check.equal("has checks", false, true);
        }
    }

    /** Fails for each sentence with a boundary that no test has quoted. */
    static void finish() {
        endSentence();
        Check.under("");
        int quoted = 0;
        for (Map.Entry<String, Boolean> sentence : QUOTED.entrySet()) {
            String text = sentence.getKey().substring(sentence.getKey().indexOf(' ') + 1);
            if (sentence.getValue()) {
                quoted++;
            } else {
                Check.equal("has a test: " + sentence.getKey(), WITHOUT_BOUNDARY.contains(text), true);
            }
        }
        System.out.println(quoted + " of " + QUOTED.size() + " sentences have tests of their own");
    }

    private static String label(int promise, String sentence) {
        return promise + " " + sentence;
    }

    private static Map<String, Boolean> readSentences() {
        Map<String, Boolean> sentences = new LinkedHashMap<>();
        int promise = -1;
        boolean isGrammar = false;
        for (String line : lines()) {
            if (line.startsWith("## ")) {
                promise = promiseOf(line);
            } else if (line.startsWith("```")) {
                isGrammar = !isGrammar;
            } else if (promise >= 0 && !line.isBlank()) {
                for (String sentence : sentencesOf(line, promise, isGrammar)) {
                    sentences.put(label(promise, sentence), false);
                }
            }
        }
        return sentences;
    }

    private static List<String> lines() {
        try {
            return Files.readAllLines(FILE);
        } catch (IOException e) {
            System.out.println("can't read " + FILE);
            return List.of();
        }
    }

    private static int promiseOf(String heading) {
        Matcher promise = PROMISE.matcher(heading);
        if (promise.matches()) {
            return Integer.parseInt(promise.group(1));
        }
        return heading.equals("## Terms") ? TERMS : -1;
    }

    private static List<String> sentencesOf(String line, int promise, boolean isGrammar) {
        if (isGrammar) {
            return List.of(line.trim());
        }
        // Under 'Terms' a line without a period is a title.
        if (promise == TERMS && (!line.endsWith(".") || line.startsWith("Ahead of the calls"))) {
            return List.of();
        }
        List<String> sentences = new ArrayList<>();
        for (String sentence : line.replaceFirst("^`[^`]+`: ", "").split(BETWEEN_SENTENCES)) {
            sentences.add(sentence);
        }
        return sentences;
    }
}

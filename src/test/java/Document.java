import java.io.IOException;
import java.nio.file.Files;
import java.nio.file.Path;
import java.util.ArrayList;
import java.util.LinkedHashMap;
import java.util.List;
import java.util.Map;
import java.util.regex.Matcher;
import java.util.regex.Pattern;
import java.util.stream.Collectors;

/**
 * The sentences of ../shared/DOC.md, each with the number of its promise. A test quotes the sentence that
 * it tries; what is no sentence of the document, has no check behind it or is left out is a failure.
 */
final class Document {
    /** Stands for the number of a promise in 'What it is' and 'Terms'. */
    static final int TERMS = 0;

    private static final Path FILE = Path.of("..", "shared", "DOC.md");
    private static final Pattern PROMISE = Pattern.compile("## Promise (\\d+): .*");
    // A number with a period, as in "1. Rent", ends no sentence.
    private static final String BETWEEN_SENTENCES = "(?<=[^0-9]\\.) (?=[A-Z])";
    private static final String CAPTION = "Ahead of the calls ";

    private static final Map<String, Boolean> QUOTED = readSentences();
    private static String current = "";
    private static int checksBefore = 0;

    private Document() {
    }

    /** Begins the test of a sentence. */
    static void says(int promise, String sentence) {
        endSentence();
        current = label(promise, sentence);
        Check.under(current);
        checksBefore = Check.count();
        if (!QUOTED.containsKey(current)) {
            Check.equal("a sentence of the document", false, true);
        }
        QUOTED.put(current, true);
    }

    private static void endSentence() {
        if (!current.isEmpty() && Check.count() == checksBefore) {
            Check.equal("has checks", false, true);
        }
    }

    /** The sentences that tell under which title the face has some calls. */
    static List<String> captions() {
        return QUOTED.keySet().stream().map(label -> label.substring(label.indexOf(' ') + 1))
                .filter(sentence -> sentence.startsWith(CAPTION)).collect(Collectors.toList());
    }

    /** The lines of the class as the document declares it. */
    static List<String> face() {
        List<String> lines = lines();
        int from = lines.indexOf("```java") + 1;
        return lines.subList(from, from + lines.subList(from, lines.size()).indexOf("```"));
    }

    /** Fails for each sentence that no test has quoted. */
    static void finish() {
        endSentence();
        Check.under("");
        int quoted = 0;
        for (Map.Entry<String, Boolean> sentence : QUOTED.entrySet()) {
            Check.equal("has a test: " + sentence.getKey(), sentence.getValue(), true);
            quoted += sentence.getValue() ? 1 : 0;
        }
        System.out.println(quoted + " of " + QUOTED.size() + " sentences have tests of their own");
    }

    private static String label(int promise, String sentence) {
        return promise + " " + sentence;
    }

    private static Map<String, Boolean> readSentences() {
        Map<String, Boolean> sentences = new LinkedHashMap<>();
        int promise = -1;
        boolean isGrammar = false;
        for (String line : lines()) {
            if (line.startsWith("## ")) {
                promise = promiseOf(line);
            } else if (line.startsWith("```")) {
                isGrammar = !isGrammar;
            } else if (promise >= 0 && !line.isBlank()) {
                for (String sentence : sentencesOf(line, promise, isGrammar)) {
                    sentences.put(label(promise, sentence), false);
                }
            }
        }
        return sentences;
    }

    private static List<String> lines() {
        try {
            return Files.readAllLines(FILE);
        } catch (IOException e) {
            System.out.println("can't read " + FILE);
            return List.of();
        }
    }

    private static int promiseOf(String heading) {
        Matcher promise = PROMISE.matcher(heading);
        if (promise.matches()) {
            return Integer.parseInt(promise.group(1));
        }
        return heading.equals("## What it is") || heading.equals("## Terms") ? TERMS : -1;
    }

    private static List<String> sentencesOf(String line, int promise, boolean isGrammar) {
        if (isGrammar) {
            return List.of(line.trim());
        }
        // Under 'Terms' a line without a period is a title.
        if (promise == TERMS && !line.endsWith(".")) {
            return List.of();
        }
        List<String> sentences = new ArrayList<>();
        for (String sentence : line.replaceFirst("^`[^`]+`: ", "").split(BETWEEN_SENTENCES)) {
            sentences.add(sentence);
        }
        return sentences;
    }
}

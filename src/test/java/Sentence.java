import java.io.IOException;
import java.nio.file.Files;
import java.nio.file.Path;
import java.util.LinkedHashSet;
import java.util.Set;

/** The sentences of the document, and which of them have a test of their own. */
final class Sentence {
    private static final int PROMISES = 48;

    private static final Set<String> TESTED = new LinkedHashSet<>();
    private static String current = "";
    private static int checksAhead;

    private Sentence() {
    }

    /** What is checked from here on tests this sentence of a promise. */
    static void of(int promise, String sentence) {
        begin("Promise " + promise + ": " + sentence);
    }

    /** What is checked from here on tests this sentence of the Terms. */
    static void term(String sentence) {
        begin("Terms: " + sentence);
    }

    private static void begin(String sentence) {
        end();
        Check.due("has no test yet: " + sentence, TESTED.add(sentence), true);
        current = sentence + " | ";
        checksAhead = Check.count();
    }

    private static void end() {
        if (!current.isEmpty()) {
            Check.due("checks of this sentence", Check.count() > checksAhead, true);
        }
        current = "";
    }

    static String current() {
        return current;
    }

    /** Each sentence of the Terms and of the promises has been tested, and none that does not stand there. */
    static void allAreTested() throws IOException {
        end();
        Set<String> told = told();
        for (String sentence : told) {
            Check.due("is tested: " + sentence, TESTED.contains(sentence), true);
        }
        for (String sentence : TESTED) {
            Check.due("stands in the document: " + sentence, told.contains(sentence), true);
        }
    }

    private static Set<String> told() throws IOException {
        String document = Files.readString(Path.of("../shared/DOC.md"));
        Set<String> told = new LinkedHashSet<>();
        // each paragraph but the first begins with a heading
        String terms = between(document, "## Terms", "Examples: each one").replaceAll("<p>[A-Za-z ]*\\.\\s", "");
        for (String sentence : terms.strip().split("(?<=\\.)\\s+")) {
            told.add("Terms: " + sentence.replaceAll("\\s+", " "));
        }
        for (int promise = 1; promise <= PROMISES; promise++) {
            for (String line : between(document, "## Promise " + promise + ":", "\n## ").split("\n")) {
                addLine(told, promise, line);
            }
        }
        return told;
    }

    private static void addLine(Set<String> told, int promise, String line) {
        // behind the promise's name and the call's head stands what the call does
        String sentence = line.startsWith("`") ? line.substring(line.indexOf("`: ") + 3) : line;
        String bare = sentence.startsWith("- ") ? sentence.substring(2) : sentence;
        if (!bare.isBlank()) {
            told.add("Promise " + promise + ": " + bare);
        }
    }

    private static String between(String document, String start, String end) {
        int from = document.indexOf(start) + start.length();
        int lineEnd = document.indexOf("\n", from);
        return document.substring(lineEnd + 1, document.indexOf(end, lineEnd));
    }
}

import java.io.IOException;
import java.nio.file.Files;
import java.nio.file.Path;
import java.util.ArrayList;
import java.util.List;
import java.util.Set;
import java.util.TreeSet;

/**
 * The document's words, each run of blanks as one, and which of them the tests have quoted: so no sentence is left
 * without a test, and no test is left behind when the document changes.
 */
final class Document {
    private static final Path FILE = Path.of("../shared/DOC.md");
    private static final String TEXT = read();
    private static final List<String> quotes = new ArrayList<>();
    private static final Set<Integer> promises = new TreeSet<>();
    /** What refusals have tested, as "7 UnsupportedOperationException it is in a hand". */
    private static final Set<String> causes = new TreeSet<>();

    private Document() {
    }

    private static String read() {
        try {
            return Files.readString(FILE);
        } catch (IOException e) {
            throw new IllegalStateException(e);
        }
    }

    static String text() {
        return TEXT;
    }

    /** What stands under a head, up to the next one. */
    private static String section(String head) {
        int from = TEXT.indexOf("\n## " + head + "\n");
        if (from < 0) {
            from = TEXT.indexOf("\n## " + head + ":");
        }
        if (from < 0) {
            throw new IllegalArgumentException("the document has no head " + head);
        }
        int line = TEXT.indexOf('\n', from + 1);
        int to = TEXT.indexOf("\n## ", line);
        return TEXT.substring(line, to < 0 ? TEXT.length() : to);
    }

    private static String joined(String text) {
        return text.replaceAll("\\s+", " ").strip();
    }

    /** Tests what a sentence of the document, quoted in its own words, says. */
    static void sentence(String quote, String... texts) {
        Script.note(joined(TEXT).contains(quote), "the document does not say: " + quote);
        quotes.add(quote);
        Script.run(quote, texts);
    }

    /** Tests what a promise says of its call besides the exceptions, quoted in its own words. */
    static void promise(int promise, String quote, String... texts) {
        Script.note(saidOf(promise).equals(quote), "promise " + promise + " says: " + saidOf(promise));
        promises.add(promise);
        Script.run("promise " + promise + ": " + quote, texts);
    }

    /** Each promise of these was quoted. */
    static void closePromises(int first, int last) {
        for (int promise = first; promise <= last; promise++) {
            Script.note(promises.contains(promise), "no test of promise " + promise);
        }
    }

    /** The sentences of a promise, without the call's head, its parameters and exceptions. */
    private static String saidOf(int promise) {
        StringBuilder said = new StringBuilder();
        for (String line : section("Promise " + promise).split("\n")) {
            if (!line.startsWith("- ") && !line.startsWith("Throws ")) {
                said.append(line).append(' ');
            }
        }
        return joined(said.substring(said.indexOf("`: ") + 2));
    }

    /** Each sentence under the head was quoted, in whole or in part, but those that begin as the spared ones do. */
    static void closeSentences(String head, String end, List<String> spared) {
        String text = section(head);
        int to = text.indexOf(end);
        for (String sentence : joined(text.substring(0, to)).split("(?<=\\.) ")) {
            boolean isSpared = spared.stream().anyMatch(sentence::startsWith);
            Script.note(isSpared || quotes.stream().anyMatch(sentence::contains), "no test of: " + sentence);
        }
    }

    /**
     * Tests that a method of the face throws for a cause, as a promise tells it: the calls have at least one that
     * throws the exception of the line with this cause.
     */
    static void refusal(int promise, String cause, String... texts) {
        String method = methodOf(promise);
        List<String> thrown = Script.run("promise " + promise + ": " + cause, texts);
        boolean isFound = false;
        for (String line : throwsLines(promise)) {
            boolean isThrown = thrown.contains(method + " " + exceptionOf(line));
            if (causesOf(line).contains(cause)) {
                isFound = true;
                Script.note(isThrown, "promise " + promise + ": no call throws as " + cause);
                causes.add(promise + " " + exceptionOf(line) + " " + cause);
            }
        }
        Script.note(isFound, "promise " + promise + " does not tell of: " + cause);
    }

    /** Each cause of each exception of each promise was tested. */
    static void closeRefusals() {
        for (int promise = 1; TEXT.contains("\n## Promise " + promise + ":"); promise++) {
            for (String line : throwsLines(promise)) {
                for (String cause : causesOf(line)) {
                    String full = promise + " " + exceptionOf(line) + " " + cause;
                    Script.note(causes.contains(full), "no test of promise " + full);
                }
            }
        }
    }

    private static String methodOf(int promise) {
        String text = section("Promise " + promise);
        String call = text.substring(text.indexOf('`') + 1, text.indexOf('('));
        return call.substring(call.lastIndexOf(' ') + 1);
    }

    private static List<String> throwsLines(int promise) {
        List<String> lines = new ArrayList<>();
        for (String line : section("Promise " + promise).split("\n")) {
            if (line.startsWith("Throws ")) {
                lines.add(line);
            }
        }
        return lines;
    }

    private static String exceptionOf(String throwsLine) {
        return throwsLine.split("`")[1];
    }

    private static List<String> causesOf(String throwsLine) {
        return List.of(throwsLine.substring(throwsLine.indexOf(" if ") + 4).split(", or |, "));
    }
}

import java.io.IOException;
import java.nio.file.Files;
import java.nio.file.Path;

/** The first example of the document, answer by answer, as the document writes it. */
public final class ExampleTest {
    private static final Path DOCUMENT = Path.of("../shared/DOC.md");

    public static void main(String[] args) throws IOException {
        String text = Files.readString(DOCUMENT);
        int from = text.indexOf("```text", text.indexOf("First example:")) + "```text".length();
        String calls = text.substring(from, text.indexOf("```", from)).strip();
        Script.run("first example", calls.substring(0, calls.length() - 1));
        Script.close("ExampleTest");
    }
}

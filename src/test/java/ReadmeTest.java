import java.io.IOException;
import java.lang.reflect.Method;
import java.lang.reflect.Modifier;
import java.nio.file.DirectoryStream;
import java.nio.file.Files;
import java.nio.file.Path;
import java.util.ArrayList;
import java.util.HashMap;
import java.util.List;
import java.util.Map;
import java.util.regex.Matcher;
import java.util.regex.Pattern;

/** README.md tells the truth: the calls of its example answer as told, and it names each call and each test. */
public final class ReadmeTest {
    private static final Path README = Path.of("README.md");
    /** The call, perhaps with a name for its answer, and behind the slashes the answer, perhaps with more words. */
    private static final Pattern CALL = Pattern.compile("(?:int (\\w+) = )?night\\.(\\w+\\(.*\\)); +// ([^:]+)(:.*)?");

    public static void main(String[] args) throws IOException {
        String text = Files.readString(README);
        example(text);
        names(text);
        Script.close("ReadmeTest");
    }

    private static void example(String text) {
        int from = text.indexOf("```java");
        Map<String, String> numbers = new HashMap<>();
        List<String> calls = new ArrayList<>();
        for (String line : text.substring(from, text.indexOf("```", from + 3)).split("\n")) {
            Matcher parts = CALL.matcher(line);
            if (parts.matches()) {
                calls.add(withNumbers(parts.group(2), numbers) + " = " + parts.group(3));
                if (parts.group(1) != null) {
                    numbers.put(parts.group(1), parts.group(3));
                }
            } else {
                Script.note(!line.contains("night."), "README.md: no answer in " + line);
            }
        }
        Script.note(calls.size() > 20, "README.md has " + calls.size() + " calls");
        Script.run("README.md", calls.toArray(new String[0]));
    }

    /** The names in the call's arguments replaced by the numbers that they stand for. */
    private static String withNumbers(String call, Map<String, String> numbers) {
        String written = call;
        for (Map.Entry<String, String> named : numbers.entrySet()) {
            written = written.replaceAll("\\b" + named.getKey() + "\\b(?!\\()", named.getValue());
        }
        return written;
    }

    private static void names(String text) throws IOException {
        for (Method method : GununganNight.class.getDeclaredMethods()) {
            boolean isNamed = text.contains("`" + method.getName() + "`");
            Script.note(isNamed == Modifier.isPublic(method.getModifiers()), "README.md: " + method.getName());
        }
        try (DirectoryStream<Path> tests = Files.newDirectoryStream(Path.of("src/test/java"), "*Test.java")) {
            for (Path test : tests) {
                String name = test.getFileName().toString().replace(".java", "");
                Script.note(text.contains("| `" + name + "` |"), "README.md does not name " + name);
            }
        }
    }
}

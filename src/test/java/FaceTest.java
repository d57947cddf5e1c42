import java.io.IOException;
import java.lang.reflect.Constructor;
import java.lang.reflect.Field;
import java.lang.reflect.Method;
import java.lang.reflect.Modifier;
import java.nio.file.Files;
import java.nio.file.Path;
import java.util.ArrayList;
import java.util.Arrays;
import java.util.List;
import java.util.TreeSet;
import java.util.regex.Matcher;
import java.util.regex.Pattern;

/** The class has the document's face, with the listed exceptions in their order, and nothing else to be seen. */
public final class FaceTest {
    private static final Path DOCUMENT = Path.of("../shared/DOC.md");
    private static final Pattern FACE = Pattern.compile("public (\\w+) (\\w+)\\((.*?)\\)(?: throws (.+?))?;");

    public static void main(String[] args) throws IOException {
        TreeSet<String> due = new TreeSet<>();
        String text = Files.readString(DOCUMENT);
        int from = text.indexOf("public final class");
        Matcher face = FACE.matcher(text.substring(from, text.indexOf("```", from)));
        while (face.find()) {
            String exceptions = face.group(4) == null ? "" : face.group(4);
            due.add(face.group(1) + " " + face.group(2) + "(" + typesOf(face.group(3)) + ") " + exceptions);
        }
        TreeSet<String> got = new TreeSet<>();
        TreeSet<String> hidden = new TreeSet<>();
        for (Method method : GununganNight.class.getDeclaredMethods()) {
            if (Modifier.isPublic(method.getModifiers())) {
                got.add(method.getReturnType() + " " + method.getName() + "(" + namesOf(method.getParameterTypes())
                        + ") " + namesOf(method.getExceptionTypes()));
            } else {
                hidden.add(method.getName());
                Script.note(Modifier.isPrivate(method.getModifiers()), method + " is to be seen");
            }
        }
        Script.note(due.size() == 46, "the document has " + due.size() + " methods");
        Script.note(due.equals(got), "the face is\n" + got + "\ndue is\n" + due);
        for (Method method : GununganNight.class.getMethods()) {
            Script.note(!hidden.contains(method.getName()), method.getName() + " is hidden and public");
        }
        onlyTheConstructorIsOpen();
        Script.close("FaceTest");
    }

    private static void onlyTheConstructorIsOpen() {
        Constructor<?>[] constructors = GununganNight.class.getDeclaredConstructors();
        Script.note(constructors.length == 1 && Modifier.isPublic(constructors[0].getModifiers())
                && constructors[0].getParameterCount() == 0, "the constructors are not as due");
        Script.note(Modifier.isFinal(GununganNight.class.getModifiers()), "the class is not final");
        for (Field field : GununganNight.class.getDeclaredFields()) {
            Script.note(Modifier.isPrivate(field.getModifiers()), field + " is to be seen");
        }
    }

    private static String typesOf(String parameters) {
        List<String> types = new ArrayList<>();
        for (String parameter : parameters.split(",")) {
            if (!parameter.isBlank()) {
                types.add(parameter.strip().split(" ")[0]);
            }
        }
        return String.join(", ", types);
    }

    private static String namesOf(Class<?>[] types) {
        return String.join(", ", Arrays.stream(types).map(Class::getSimpleName).toList());
    }
}

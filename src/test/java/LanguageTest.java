import java.io.IOException;
import java.lang.reflect.Executable;
import java.lang.reflect.Field;
import java.lang.reflect.Method;
import java.lang.reflect.Modifier;
import java.nio.file.Files;
import java.nio.file.Path;
import java.util.ArrayList;
import java.util.List;
import java.util.Set;
import java.util.regex.Matcher;
import java.util.regex.Pattern;
import java.util.stream.Stream;

/**
 * The rules of ../shared/LANGUAGE.md that can be read off the class and its source. Of what the rules allow with care,
 * as catch and equals, the class does without, and this test forbids it.
 */
public final class LanguageTest {
    private static final Path SOURCE = Path.of("src/main/java/GununganNight.java");
    private static final Set<String> TYPES = Set.of("int", "long", "short", "byte", "char", "boolean", "double",
            "float", "void", "String", "StringBuilder", "Integer", "ArrayList", "List");
    private static final Set<String> IMPORTS = Set.of("java.util.ArrayList", "java.util.List", "java.util.Arrays",
            "java.util.Iterator", "java.util.NoSuchElementException");
    private static final Pattern FORBIDDEN = Pattern.compile("->|::|\\b(catch|finally|synchronized|assert|volatile"
            + "|native|transient|System|Math\\.\\w+Exact|equals|hashCode|toString|var)\\b|\"\\s*\\+|\\+\\s*\"");
    private static final Pattern THROW = Pattern.compile("throw new (IllegalState|IllegalArgument|IndexOutOfBounds"
            + "|Arithmetic|UnsupportedOperation|NoSuchElement|Runtime)Exception\\((\"[^\"]*\")?\\);");
    private static final Pattern HEAD = Pattern.compile("( {4}| {8})(?!for |if |while |return )[\\w<> ]+\\(.*[^;]");
    private static final int MOST_PARAMETERS = 7;
    private static final int MOST_LINES = 60;
    private static final int MOST_CLASSES = 12;
    private static final int MOST_FIELDS = 20;

    public static void main(String[] args) throws IOException {
        String text = Files.readString(SOURCE);
        classes();
        words(text.replaceAll("(?s)/\\*.*?\\*/|//[^\n]*", ""));
        Script.note(text.chars().allMatch(sign -> sign < 128), "a sign is not one of 1 to 127");
        methodsAreShort(text.split("\n"));
        Script.close("LanguageTest");
    }

    private static void classes() {
        List<Class<?>> classes = new ArrayList<>(List.of(GununganNight.class.getDeclaredClasses()));
        List<String> face = Stream.of(GununganNight.class.getMethods()).map(Method::getName).toList();
        for (Class<?> inside : classes) {
            for (Method method : inside.getDeclaredMethods()) {
                Script.note(!face.contains(method.getName()), "rule 1: " + method);
            }
            Script.note(Modifier.isStatic(inside.getModifiers()), "rule 1: " + inside);
            Script.note(inside.getDeclaredClasses().length == 0, "classes are in " + inside);
        }
        classes.add(GununganNight.class);
        Script.note(classes.size() <= MOST_CLASSES, "rule 11: classes are " + classes.size());
        for (Class<?> each : classes) {
            fields(each);
            List<Executable> calls = new ArrayList<>(List.of(each.getDeclaredMethods()));
            calls.addAll(List.of(each.getDeclaredConstructors()));
            for (Executable call : calls) {
                Script.note(call.getParameterCount() <= MOST_PARAMETERS, "rule 11: parameters of " + call);
                Script.note(!call.isSynthetic(), "rule 3: " + call);
                boolean isReturned = !(call instanceof Method method) || isOfLanguage(method.getReturnType());
                Script.note(isReturned, "rule 3: " + call);
                for (Class<?> type : call.getParameterTypes()) {
                    Script.note(isOfLanguage(type), "rule 3: " + call);
                }
            }
        }
    }

    private static void fields(Class<?> each) {
        int many = 0;
        for (Field field : each.getDeclaredFields()) {
            boolean isStatic = Modifier.isStatic(field.getModifiers());
            boolean isPlain = field.getType().isPrimitive() || field.getType() == String.class;
            many += isStatic ? 0 : 1;
            Script.note(isOfLanguage(field.getType()), "rule 3: " + field);
            Script.note(!isStatic || isPlain && Modifier.isFinal(field.getModifiers()), "rule 5: " + field);
        }
        Script.note(many <= MOST_FIELDS, "rule 11: fields of " + each);
    }

    private static boolean isOfLanguage(Class<?> type) {
        if (type.isArray()) {
            return isOfLanguage(type.getComponentType());
        }
        return TYPES.contains(type.getSimpleName()) || type.getName().startsWith("GununganNight");
    }

    private static void words(String code) {
        Matcher imports = Pattern.compile("import ([^;]+);").matcher(code);
        while (imports.find()) {
            Script.note(IMPORTS.contains(imports.group(1)), "rule 4: " + imports.group());
        }
        Matcher forbidden = FORBIDDEN.matcher(code);
        while (forbidden.find()) {
            Script.note(false, "rules 3 to 10: " + forbidden.group());
        }
        String rest = THROW.matcher(code).replaceAll("");
        Script.note(!rest.equals(code) && !Pattern.compile("\\bthrow\\b").matcher(rest).find(), "rule 6: a throw");
    }

    /** A method begins and ends with lines of the same indent, that of the members of its class. */
    private static void methodsAreShort(String[] lines) {
        int methods = 0;
        for (int i = 0; i < lines.length; i++) {
            if (HEAD.matcher(lines[i]).matches()) {
                String end = lines[i].substring(0, lines[i].length() - lines[i].stripLeading().length()) + "}";
                int to = i;
                while (to < lines.length && !lines[to].equals(end)) {
                    to++;
                }
                methods++;
                Script.note(to - i < MOST_LINES, "rule 11: " + lines[i].strip() + " has " + (to - i + 1) + " lines");
            }
        }
        Script.note(methods > 100, "methods found: " + methods);
    }
}

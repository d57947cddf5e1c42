import java.lang.reflect.InvocationTargetException;
import java.lang.reflect.Method;
import java.util.Map;
import java.util.regex.Matcher;
import java.util.regex.Pattern;

/**
 * Runs calls that are written as the document writes them: "take(1) = 0; take(2) = UOE", an exception by the first
 * letters of its name. A call without an answer must only not throw. Each run has a new object; what is not as due
 * is printed.
 */
final class Script {
    private static final Pattern CALL = Pattern.compile("(\\w+)\\((.*)\\)(?:\\s*=\\s*(.+))?");
    private static final Map<String, String> EXCEPTIONS = Map.of(
            "IAE", "throws.IllegalArgumentException",
            "ISE", "throws.IllegalStateException",
            "IOOBE", "throws.IndexOutOfBoundsException",
            "UOE", "throws.UnsupportedOperationException",
            "NSEE", "throws.NoSuchElementException");
    private static int calls = 0;
    private static int wrong = 0;

    private Script() {
    }

    static void run(String title, String... texts) {
        GununganNight night = new GununganNight();
        for (String part : String.join(";", texts).split(";")) {
            if (!part.isBlank()) {
                check(title, night, part.strip().replaceAll("\\s+", " "));
            }
        }
    }

    private static void check(String title, GununganNight night, String text) {
        Matcher call = CALL.matcher(text);
        if (!call.matches()) {
            throw new IllegalArgumentException("not a call: " + text);
        }
        Method method = methodNamed(call.group(1));
        Object[] arguments = argumentsOf(method, call.group(2).strip());
        String due = call.group(3);
        String got = answerOf(night, method, arguments);
        boolean isAsDue = due == null ? !got.startsWith("throws.") : EXCEPTIONS.getOrDefault(due, due).equals(got);
        note(isAsDue, title + ": " + text + " answered " + got);
    }

    static Method methodNamed(String name) {
        for (Method method : GununganNight.class.getDeclaredMethods()) {
            if (method.getName().equals(name)) {
                return method;
            }
        }
        throw new IllegalArgumentException("no such method: " + name);
    }

    private static Object[] argumentsOf(Method method, String text) {
        String[] words = text.isEmpty() ? new String[0] : text.split(",");
        Class<?>[] types = method.getParameterTypes();
        if (words.length != types.length) {
            throw new IllegalArgumentException(method.getName() + " does not take " + text);
        }
        Object[] arguments = new Object[types.length];
        for (int i = 0; i < types.length; i++) {
            String word = words[i].strip();
            if (types[i] == char.class) {
                arguments[i] = word.charAt(1);
            } else if (types[i] == boolean.class) {
                arguments[i] = word.equals("true");
            } else {
                arguments[i] = Integer.valueOf(word);
            }
        }
        return arguments;
    }

    /** The answer as text, "throws." and the simple name of an exception that came instead. */
    static String answerOf(GununganNight night, Method method, Object... arguments) {
        try {
            return String.valueOf(method.invoke(night, arguments));
        } catch (InvocationTargetException e) {
            return "throws." + nameOf(method, e.getCause());
        } catch (IllegalAccessException e) {
            return "throws." + e;
        }
    }

    /** Tells too if the document does not list the exception, or the machine and not the class has thrown it. */
    private static String nameOf(Method method, Throwable thrown) {
        boolean isListed = false;
        for (Class<?> type : method.getExceptionTypes()) {
            isListed |= type == thrown.getClass();
        }
        StackTraceElement[] trace = thrown.getStackTrace();
        boolean isOwn = trace.length > 0 && trace[0].getClassName().startsWith("GununganNight");
        String name = thrown.getClass().getSimpleName();
        return isListed && isOwn ? name : name + ", which " + method.getName() + " must not throw so";
    }

    static void note(boolean isAsDue, String what) {
        calls++;
        if (!isAsDue) {
            wrong++;
            System.out.println(what);
        }
    }

    /** The same text with each # replaced by the numbers from the first to the last. */
    static String each(int first, int last, String text) {
        StringBuilder all = new StringBuilder();
        for (int i = first; i <= last; i++) {
            all.append(text.replace("#", String.valueOf(i))).append(';');
        }
        return all.toString();
    }

    /** Ends a test: prints how many answers were looked at, and exits with 1 if one was wrong. */
    static void close(String name) {
        System.out.println(name + ": " + calls + " answers, " + wrong + " not as due");
        if (wrong > 0 || calls == 0) {
            System.exit(1);
        }
    }
}

import java.lang.reflect.InvocationTargetException;
import java.lang.reflect.Method;
import java.util.ArrayList;
import java.util.List;
import java.util.Map;
import java.util.regex.Matcher;
import java.util.regex.Pattern;

/**
 * Runs calls that are written as the document writes them: "take(1) = 0; take(2) = UOE", an exception by the first
 * letters of its name, a character between quotes or by its number. A call without an answer must only not throw.
 * Each run has a new object; what is not as due is printed. Of each call that throws it is looked at whether it has
 * changed something.
 */
final class Script {
    /** The document promises nothing behind so many calls on one object. */
    private static final int MOST_CALLS = 512;
    private static final Pattern CALL = Pattern.compile("(\\w+)\\((.*)\\)(?:\\s*=\\s*(.+))?");
    private static final Map<String, String> EXCEPTIONS = Map.of(
            "IAE", "throws.IllegalArgumentException",
            "ISE", "throws.IllegalStateException",
            "IOOBE", "throws.IndexOutOfBoundsException",
            "UOE", "throws.UnsupportedOperationException",
            "NSEE", "throws.NoSuchElementException");
    private static int looks = 0;
    private static int wrong = 0;

    private final String title;
    private final GununganNight night = new GununganNight();
    /** The calls up to now that did not throw: as others change nothing, these alone make the same night. */
    private final List<Call> calls = new ArrayList<>();
    /** What was thrown by which method, written "take UnsupportedOperationException". */
    private final List<String> refusals = new ArrayList<>();

    /** One call with its arguments, to be made on any object. */
    private record Call(Method method, Object[] arguments) {
        String on(GununganNight night) {
            return answerOf(night, method, arguments);
        }
    }

    private Script(String title) {
        this.title = title;
    }

    /** Runs the calls, and returns what was thrown, written "take UnsupportedOperationException". */
    static List<String> run(String title, String... texts) {
        Script script = new Script(title);
        for (String part : String.join(";", texts).split(";")) {
            if (!part.isBlank()) {
                script.check(part.strip().replaceAll("\\s+", " "));
            }
        }
        note(script.calls.size() <= MOST_CALLS, title + ": has too many calls");
        return script.refusals;
    }

    private void check(String text) {
        Matcher parts = CALL.matcher(text);
        if (!parts.matches()) {
            throw new IllegalArgumentException("not a call: " + text);
        }
        Method method = methodNamed(parts.group(1));
        Call call = new Call(method, argumentsOf(method, parts.group(2).strip()));
        String due = parts.group(3);
        String got = call.on(night);
        boolean isAsDue = due == null ? !got.startsWith("throws.") : EXCEPTIONS.getOrDefault(due, due).equals(got);
        note(isAsDue, title + ": " + text + " answered " + got);
        if (got.startsWith("throws.")) {
            refusals.add(method.getName() + " " + got.substring("throws.".length()));
            checkThatNothingChanged(call, got, text);
        } else {
            calls.add(call);
        }
    }

    /** A night with the call that throws, and one that is spared it, can't be told from each other by any call. */
    private void checkThatNothingChanged(Call call, String got, String text) {
        GununganNight spared = replay();
        GununganNight refused = replay();
        boolean isSame = call.on(refused).equals(got) && call.on(refused).equals(got);
        note(isSame, title + ": " + text + " does not throw each time");
        int callsLeft = MOST_CALLS - calls.size() - 2;
        String due = Probe.of(spared, callsLeft);
        String seen = Probe.of(refused, callsLeft);
        note(due.equals(seen), title + ": " + text + " changed something:\n" + due + "\n" + seen);
    }

    private GununganNight replay() {
        GununganNight another = new GununganNight();
        for (Call call : calls) {
            call.on(another);
        }
        return another;
    }

    static Method methodNamed(String name) {
        for (Method method : GununganNight.class.getDeclaredMethods()) {
            if (method.getName().equals(name)) {
                return method;
            }
        }
        throw new IllegalArgumentException("no such method: " + name);
    }

    private static Object[] argumentsOf(Method method, String text) {
        String[] words = text.isEmpty() ? new String[0] : text.split(",");
        Class<?>[] types = method.getParameterTypes();
        if (words.length != types.length) {
            throw new IllegalArgumentException(method.getName() + " does not take " + text);
        }
        Object[] arguments = new Object[types.length];
        for (int i = 0; i < types.length; i++) {
            String word = words[i].strip();
            if (types[i] == char.class) {
                arguments[i] = word.startsWith("'") ? word.charAt(1) : (char) Integer.parseInt(word);
            } else if (types[i] == boolean.class) {
                arguments[i] = word.equals("true");
            } else {
                arguments[i] = Integer.valueOf(word);
            }
        }
        return arguments;
    }

    /** The answer as text, "throws." and the simple name of an exception that came instead. */
    static String answerOf(GununganNight night, Method method, Object... arguments) {
        try {
            return String.valueOf(method.invoke(night, arguments));
        } catch (InvocationTargetException e) {
            return "throws." + nameOf(method, e.getCause());
        } catch (IllegalAccessException e) {
            return "throws." + e;
        }
    }

    /** Tells too if the document does not list the exception, or the machine and not the class has thrown it. */
    private static String nameOf(Method method, Throwable thrown) {
        boolean isListed = false;
        for (Class<?> type : method.getExceptionTypes()) {
            isListed |= type == thrown.getClass();
        }
        StackTraceElement[] trace = thrown.getStackTrace();
        boolean isOwn = trace.length > 0 && trace[0].getClassName().startsWith("GununganNight");
        String name = thrown.getClass().getSimpleName();
        return isListed && isOwn ? name : name + ", which " + method.getName() + " must not throw so";
    }

    static void note(boolean isAsDue, String what) {
        looks++;
        if (!isAsDue) {
            wrong++;
            System.out.println(what);
        }
    }

    /** The same text with each # replaced by the numbers from the first to the last. */
    static String each(int first, int last, String text) {
        StringBuilder all = new StringBuilder();
        for (int i = first; i <= last; i++) {
            all.append(text.replace("#", String.valueOf(i))).append(';');
        }
        return all.toString();
    }

    /** Lets the night's minutes go by from the one to the other, in as few calls as can be. */
    static String pass(int from, int to) {
        StringBuilder all = new StringBuilder();
        for (int minute = from; minute < to; minute += 120) {
            all.append("go(").append(Math.min(120, to - minute)).append(");");
        }
        return all.toString();
    }

    /** Ends a test: prints how many answers were looked at, and exits with 1 if one was wrong. */
    static void close(String name) {
        System.out.println(name + ": " + looks + " answers, " + wrong + " not as due");
        if (wrong > 0 || looks == 0) {
            System.exit(1);
        }
    }
}

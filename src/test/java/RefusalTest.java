import java.lang.reflect.Method;
import java.lang.reflect.Modifier;
import java.util.ArrayList;
import java.util.Comparator;
import java.util.List;
import java.util.Random;

/**
 * Many calls with all sorts of arguments: none throws but what the document lists for it, a call that throws
 * changes nothing (a twin that is spared such calls gives the same answers), and the night stays sound.
 */
public final class RefusalTest {
    private static final int NIGHTS = 300;
    private static final int CALLS = 500;
    private static final int[] ODD = {Integer.MIN_VALUE, -1, 8, 12, 20, 64, 121, 541, Integer.MAX_VALUE};

    public static void main(String[] args) {
        List<Method> methods = new ArrayList<>(List.of(GununganNight.class.getDeclaredMethods()));
        methods.removeIf(method -> !Modifier.isPublic(method.getModifiers()));
        methods.sort(Comparator.comparing(Method::getName));
        for (int seed = 0; seed < NIGHTS; seed++) {
            play(seed, methods);
        }
        Script.close("RefusalTest");
    }

    private static void play(int seed, List<Method> methods) {
        Random random = new Random(seed);
        GununganNight night = new GununganNight();
        GununganNight spared = new GununganNight();
        for (int i = 0; i < CALLS; i++) {
            Method method = methods.get(random.nextInt(methods.size()));
            Object[] arguments = argumentsFor(method, random);
            String got = Script.answerOf(night, method, arguments);
            String where = "seed " + seed + ", call " + i + ": " + method.getName() + " answered " + got;
            Script.note(!got.contains("must not throw"), where);
            if (!got.startsWith("throws.")) {
                String twin = Script.answerOf(spared, method, arguments);
                Script.note(got.equals(twin), where + ", its twin " + twin);
            }
        }
        Script.note(night.isSound() && night.checksum() == spared.checksum(), "seed " + seed + ": the end");
    }

    private static Object[] argumentsFor(Method method, Random random) {
        Class<?>[] types = method.getParameterTypes();
        Object[] arguments = new Object[types.length];
        for (int i = 0; i < types.length; i++) {
            if (types[i] == char.class) {
                arguments[i] = "lrtbakdfx".charAt(random.nextInt(9));
            } else if (types[i] == boolean.class) {
                arguments[i] = random.nextBoolean();
            } else {
                boolean isOdd = random.nextInt(20) == 0;
                arguments[i] = isOdd ? ODD[random.nextInt(ODD.length)] : random.nextInt(random.nextInt(9) + 1);
            }
        }
        return arguments;
    }
}

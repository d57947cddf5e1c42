import java.lang.reflect.InvocationTargetException;
import java.lang.reflect.Method;
import java.lang.reflect.Modifier;
import java.util.ArrayList;
import java.util.Comparator;
import java.util.HashMap;
import java.util.List;
import java.util.Map;
import java.util.Random;

/** Compares whole nights of calls, answer by answer, with the model that tells the document once more. */
public final class NightModelTest {
    private static final int NIGHTS = 600;
    private static final int CALLS = 512;
    /** Calls that make a night, and calls that let it go on: each is drawn so many times as it stands here. */
    private static final String MAKING = "person person figure figure figure episode episode episode episode tell tell"
            + " tell tell before before before piece piece learn learn";
    private static final String PLAYING = "begin begin begin begin begin go go go nextMode speak speak speak speak take"
            + " take take put put put say say start knock knock offer offer onStem onStem asked going isLost"
            + " orders end";
    private static final Map<String, Method> models = new HashMap<>();
    private static final Map<String, Integer> answered = new HashMap<>();

    private final Random random;
    private final GununganNight night = new GununganNight();
    private final NightModel model = new NightModel();
    private final int longest;

    private NightModelTest(int seed) {
        random = new Random(seed);
        longest = 1 + random.nextInt(60);
    }

    public static void main(String[] args) {
        List<Method> all = new ArrayList<>(List.of(GununganNight.class.getDeclaredMethods()));
        all.removeIf(method -> !Modifier.isPublic(method.getModifiers()));
        all.sort(Comparator.comparing(Method::getName));
        for (Method method : NightModel.class.getDeclaredMethods()) {
            models.put(method.getName() + method.getParameterCount(), method);
        }
        for (int seed = 0; seed < NIGHTS; seed++) {
            new NightModelTest(seed).play(seed, all);
        }
        for (Method method : all) {
            int many = answered.getOrDefault(method.getName(), 0);
            Script.note(many >= NIGHTS / 3, method.getName() + " has answered " + many + " times only");
        }
        Script.close("NightModelTest");
    }

    private void play(int seed, List<Method> all) {
        String[] making = MAKING.split(" ");
        String[] playing = PLAYING.split(" ");
        int made = 40 + random.nextInt(160);
        for (int i = 0; i < CALLS; i++) {
            Method method = all.get(random.nextInt(all.size()));
            if (random.nextInt(4) > 0) {
                String[] likely = i < made ? making : playing;
                method = Script.methodNamed(likely[random.nextInt(likely.length)]);
            }
            Object[] arguments = argumentsFor(method);
            String due = answerOfModel(method, arguments);
            String got = Script.answerOf(night, method, arguments);
            Script.note(got.equals(due), "seed " + seed + ", call " + i + ": " + method.getName()
                    + List.of(arguments) + " answered " + got + ", the model " + due);
            if (!got.startsWith("throws.")) {
                answered.merge(method.getName(), 1, Integer::sum);
            }
        }
    }

    private String answerOfModel(Method method, Object[] arguments) {
        Method twin = models.get(method.getName() + method.getParameterCount());
        try {
            return String.valueOf(twin.invoke(model, arguments));
        } catch (InvocationTargetException e) {
            return "throws." + e.getCause().getClass().getSimpleName();
        } catch (IllegalAccessException e) {
            return "throws." + e;
        }
    }

    private Object[] argumentsFor(Method method) {
        Class<?>[] types = method.getParameterTypes();
        Object[] arguments = new Object[types.length];
        for (int i = 0; i < types.length; i++) {
            if (types[i] == boolean.class) {
                arguments[i] = random.nextInt(3) > 0;
            } else if (types[i] == char.class) {
                arguments[i] = letterFor(method.getName());
            } else {
                arguments[i] = numberFor(method.getName(), i);
            }
        }
        return arguments;
    }

    private char letterFor(String name) {
        String letters = switch (name) {
            case "episode" -> "ttb";
            case "tell" -> "aakdff";
            default -> "lr";
        };
        return random.nextInt(60) == 0 ? 'x' : letters.charAt(random.nextInt(letters.length()));
    }

    /** Mostly a number in its range, now and then one beside it. */
    private int numberFor(String name, int place) {
        int most = switch (name) {
            case "person" -> place == 0 ? 9 : 5;
            case "episode" -> place == 1 ? longest : 2;
            case "go" -> random.nextInt(4) == 0 ? 120 : 30;
            case "cut" -> 540;
            case "piece" -> place == 0 ? 7 : place == 1 ? 64 : 2;
            case "speak" -> place == 0 ? 9 : 20;
            case "onStem" -> 3;
            case "offer" -> 5;
            case "crowd" -> 500;
            case "before" -> 12;
            case "begin", "bars", "isPlayed" -> 15;
            case "tell" -> place == 0 ? 9 : 7;
            default -> 7;
        };
        int number = random.nextInt(most + 1);
        if (name.equals("episode") && place == 2 || name.equals("piece") && place == 2) {
            number = Math.min(number, random.nextInt(3));
        }
        return random.nextInt(40) == 0 ? most + 1 : random.nextInt(60) == 0 ? -1 : number;
    }
}

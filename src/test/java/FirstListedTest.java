import java.lang.reflect.Method;
import java.lang.reflect.Modifier;
import java.util.List;
import java.util.Set;
import java.util.TreeSet;

/**
 * Of several exceptions that apply, the one that is listed first is thrown: for each two that a method lists, a call
 * to which both apply, beside one to which the later one alone applies.
 */
public final class FirstListedTest {
    private static final Set<String> tested = new TreeSet<>();
    private static final String TWENTY_EPISODES = Script.each(0, 19, "episode('b', 2, 0, false)");
    private static final String FORTY_PAIRS = TWENTY_EPISODES + Script.each(1, 19, "before(0, #)")
            + Script.each(2, 19, "before(1, #)") + "before(2, 3); before(2, 4); before(2, 5) = 40;";
    private static final String TOLD = "person(1, 1, 'l'); person(1, 1, 'l'); episode('t', 2, 0, false);"
            + "episode('b', 2, 0, false); episode('b', 2, 0, false); begin(2); tell(0, 'a', 1, 0);";
    private static final String SIXTY_LINES = TOLD + Script.each(2, 60, "tell(1, 'k', 0, 3) = #");
    private static final String SPEAKER = "person(1, 1, 'l'); person(1, 1, 'l'); figure(0); figure(1); take(0);";
    private static final String SPEAKER_AT_DAWN = SPEAKER + "episode('b', 1, 0, false);" + Script.pass(0, 535)
            + "begin(0);";

    public static void main(String[] args) {
        personsAndFigures();
        episodes();
        before();
        tell();
        night();
        speakAndSay();
        music();
        closePairs();
        Script.close("FirstListedTest");
    }

    /** Both exceptions apply to the first call, the second exception alone to the second call. */
    private static void pair(String first, String second, String ahead, String both, String laterAlone) {
        List<String> thrown = Script.run("of two, the first listed", ahead, both + " = " + first,
                laterAlone + " = " + second);
        if (thrown.size() >= 2) {
            String earlier = thrown.get(thrown.size() - 2);
            String later = thrown.get(thrown.size() - 1);
            tested.add(earlier + " " + later.substring(later.indexOf(' ') + 1));
        }
    }

    private static void personsAndFigures() {
        String twelve = Script.each(0, 11, "person(1, 1, 'l')");
        pair("IAE", "ISE", twelve, "person(10, 1, 'l')", "person(9, 1, 'l')");
        pair("IAE", "ISE", twelve, "person(1, 6, 'l')", "person(1, 5, 'l')");
        pair("IAE", "ISE", twelve, "person(1, 1, 's')", "person(1, 1, 'r')");
        pair("IOOBE", "ISE", "person(1, 1, 'l')" + Script.each(0, 19, ";figure(0)"), "figure(1)", "figure(0)");
        pair("IOOBE", "IAE", "person(1, 1, 'l')", "knows(1, 8)", "knows(0, 8)");
        pair("IOOBE", "IAE", "person(1, 1, 'l')", "learn(-1, -1)", "learn(0, -1)");
        String handsFull = Script.each(0, 2, "person(1, 1, 'l'); figure(#)") + "take(0); take(1)";
        pair("IOOBE", "UOE", handsFull, "take(3)", "take(2)");
        pair("IOOBE", "UOE", "person(1, 1, 'l'); figure(0)", "put(1, true)", "put(0, true)");
        pair("IAE", "NSEE", "", "onStem('b', 0)", "onStem('l', 0)");
    }

    private static void episodes() {
        pair("IAE", "ISE", TWENTY_EPISODES, "episode('s', 1, 0, false)", "episode('t', 1, 0, false)");
        pair("IAE", "ISE", TWENTY_EPISODES, "episode('t', 61, 0, false)", "episode('t', 60, 0, false)");
        pair("IAE", "ISE", TWENTY_EPISODES, "episode('t', 1, 3, false)", "episode('t', 1, 2, false)");
        pair("IOOBE", "UOE", "episode('b', 2, 0, false); begin(0)", "begin(1)", "begin(0)");
        pair("IAE", "NSEE", "episode('t', 2, 0, false); begin(0); go(2)", "cut(0)", "cut(1)");
    }

    private static void before() {
        String three = Script.each(0, 2, "episode('b', 2, 0, false)") + "before(0, 1);";
        pair("IOOBE", "IAE", three, "before(3, 1)", "before(2, 1)");
        pair("IOOBE", "IAE", three, "before(0, -1)", "before(0, 0)");
        pair("IOOBE", "UOE", three + "begin(2)", "before(-1, 2)", "before(1, 2)");
        pair("IOOBE", "ISE", FORTY_PAIRS, "before(20, 19)", "before(18, 19)");
        pair("IOOBE", "ISE", FORTY_PAIRS, "before(18, 20)", "before(18, 19)");
        pair("IAE", "UOE", three + "begin(2)", "before(2, 2)", "before(1, 2)");
        pair("IAE", "UOE", three + "before(0, 2); begin(0); go(2); begin(2)", "before(0, 2)", "before(1, 2)");
        pair("IAE", "ISE", FORTY_PAIRS, "before(19, 18)", "before(18, 19)");
        pair("IAE", "ISE", FORTY_PAIRS, "before(1, 19)", "before(3, 19)");
        pair("UOE", "ISE", FORTY_PAIRS + "begin(0); go(2); begin(1); go(2); begin(19)", "before(18, 19)",
                "before(17, 18)");
    }

    private static void tell() {
        String harm = "tell(1, 'd', 1, 0)";
        pair("IOOBE", "IAE", TOLD, "tell(3, 'x', 0, 0)", "tell(1, 'x', 0, 0)");
        pair("IOOBE", "IAE", TOLD, "tell(1, 'f', 2, 8)", "tell(1, 'f', 1, 8)");
        pair("IOOBE", "UOE", TOLD, "tell(2, 'f', 2, 0)", "tell(2, 'f', 1, 0)");
        pair("IOOBE", "UOE", TOLD, "tell(-1, 'd', 1, 0)", harm);
        pair("IOOBE", "ISE", SIXTY_LINES, "tell(3, 'a', 0, 0)", "tell(0, 'a', 0, 0)");
        pair("IOOBE", "ISE", SIXTY_LINES, "tell(0, 'a', 2, 0)", "tell(0, 'a', 0, 0)");
        pair("IAE", "UOE", TOLD, "tell(2, 'x', 1, 0)", harm);
        pair("IAE", "UOE", TOLD, "tell(2, 'f', 0, 8)", "tell(2, 'f', 0, 7)");
        pair("IAE", "ISE", SIXTY_LINES, "tell(1, 'D', 0, 0)", "tell(1, 'd', 0, 0)");
        pair("IAE", "ISE", SIXTY_LINES, "tell(1, 'k', 0, -1)", "tell(1, 'k', 0, 0)");
        pair("UOE", "ISE", SIXTY_LINES, "tell(2, 'f', 0, 0)", "tell(0, 'f', 0, 0)");
        pair("UOE", "ISE", SIXTY_LINES, harm, "tell(1, 'd', 0, 0)");
    }

    private static void night() {
        pair("IAE", "ISE", Script.pass(0, 420), "go(121)", "go(120); go(1)");
        pair("IAE", "ISE", Script.pass(0, 540), "go(121)", "go(120)");
        pair("IAE", "ISE", "offer(9)", "offer(10)", "offer(9)");
    }

    private static void speakAndSay() {
        pair("IOOBE", "IAE", SPEAKER, "speak(2, 0)", "speak(0, 0)");
        pair("IOOBE", "UOE", SPEAKER, "speak(2, 1)", "speak(0, 1)");
        pair("IOOBE", "ISE", SPEAKER_AT_DAWN, "speak(2, 6)", "speak(0, 6)");
        pair("IAE", "UOE", SPEAKER, "speak(1, 21)", "speak(1, 20)");
        pair("IAE", "ISE", SPEAKER_AT_DAWN, "speak(0, 21)", "speak(0, 20)");
        pair("UOE", "ISE", SPEAKER_AT_DAWN, "speak(1, 6)", "speak(0, 6)");
        pair("UOE", "ISE", SPEAKER_AT_DAWN + "go(1); episode('b', 1, 0, false)", "speak(0, 5)",
                "begin(1); speak(0, 5)");
        pair("IOOBE", "IAE", SPEAKER, "say(2, 8)", "say(0, 8)");
        pair("IOOBE", "UOE", SPEAKER, "say(-1, 7)", "say(0, 7)");
        pair("IAE", "UOE", SPEAKER, "say(1, 8)", "say(1, 7)");
    }

    private static void music() {
        String played = "piece(0, 9, 0); start(0)";
        pair("IAE", "UOE", played, "piece(0, 3, 0)", "piece(0, 4, 0)");
        pair("IAE", "UOE", played, "piece(0, 65, 0)", "piece(0, 64, 0)");
        pair("IAE", "UOE", played, "piece(0, 9, 3)", "piece(0, 9, 2)");
        pair("IAE", "UOE", played, "start(8)", "start(7)");
        pair("IAE", "UOE", "", "knock(-1)", "knock(0)");
    }

    /** No two that a method lists were left out. */
    private static void closePairs() {
        for (Method method : GununganNight.class.getDeclaredMethods()) {
            Class<?>[] listed = method.getExceptionTypes();
            for (int i = 0; i < listed.length && Modifier.isPublic(method.getModifiers()); i++) {
                for (int j = i + 1; j < listed.length; j++) {
                    String names = listed[i].getSimpleName() + " " + listed[j].getSimpleName();
                    Script.note(tested.contains(method.getName() + " " + names), method.getName() + ": not " + names);
                }
            }
        }
    }
}

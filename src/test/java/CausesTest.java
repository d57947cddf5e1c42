/**
 * Each cause of each exception of each promise: the call throws, and leaves all as it was; just inside of the cause
 * it answers. That no cause is left out is read out of the document.
 */
public final class CausesTest {
    static final String RANGE = "a number is out of range";

    /** A night in the middle of its play: persons with their figures out, and episodes played, going on, open. */
    static final String NIGHT = "person(0, 1, 'l'); person(3, 2, 'r'); figure(0); figure(1); take(0); learn(0, 2);"
            + "bar(2, true); bar(5, true); wish(2); say(0, 2); take(1); put(1, true); episode('t', 2, 0, false);"
            + "episode('t', 9, 0, false); episode('b', 5, 0, true); before(0, 1); tell(1, 'f', 1, 3); offer(3);"
            + "piece(0, 9, 0); piece(1, 7, 0); start(0); tree(false); rain(true); crowd(50); begin(0); speak(0, 2);"
            + "begin(1); knock(1); isMet() = true;";

    public static void main(String[] args) {
        CausesOfStage.run();
        CausesOfEpic.run();
        CausesOfNight.run();
        CausesOfMusic.run();
        Document.closeRefusals();
        Script.close("CausesTest");
    }

    /** The least and the greatest number are taken, and those outside of them refused. */
    static void range(int promise, String cause, String due, String ahead, String call, int least, int most) {
        int[] inside = {least, least + (most - least) / 2, most};
        for (int number : inside) {
            Script.run("promise " + promise + ", in range", ahead, call.replace("#", "" + number));
        }
        String name = call.split(" = ")[0];
        int[] outside = {least - 1, most + 1, Integer.MIN_VALUE, Integer.MAX_VALUE};
        for (int number : outside) {
            Document.refusal(promise, cause, ahead, name.replace("#", "" + number) + " = " + due);
        }
    }

    /** The letters are taken, and all others refused. */
    static void letters(int promise, String cause, String ahead, String call, String letters) {
        for (char letter : letters.toCharArray()) {
            Script.run("promise " + promise + ", the letter " + letter, ahead, call.replace("#", "" + (int) letter));
        }
        int[] far = {'l' + 256, 't' + 256, 'a' + 65280, 65535};
        for (int sign = 0; sign < 256 + far.length; sign++) {
            int number = sign < 256 ? sign : far[sign - 256];
            if (letters.indexOf(number) < 0) {
                Document.refusal(promise, cause, ahead, call.replace("#", "" + number) + " = IAE");
            }
        }
    }
}

/** Of TermsTest: what is said of the minutes, the modes and the attention. */
final class TermsOfNight {
    private static final String RAIN_TO_500 = "rain(true);" + Script.pass(0, 500);

    private TermsOfNight() {
    }

    static void run() {
        minutes();
        modes();
        beats();
        order();
        attention();
        attentionAtItsBounds();
    }

    private static void minutes() {
        String sentence = "The night has 540 minutes, from 0 on.";
        Document.sentence(sentence, "minute() = 0;", Script.pass(0, 539), "minute() = 539; go(2) = ISE; go(1) = 540",
                "minute() = 540; go(1) = ISE; go(120) = ISE; minute() = 540");
        Document.sentence(sentence, Script.pass(0, 420), "go(120) = 540; episode('t', 1, 0, false); bars(0) = x",
                "begin(0) = UOE; minute() = 540");
    }

    private static void modes() {
        String sentence = "Its mode is 0 at first, and can go on to 1 from the minute 180 on, and to 2 from 360 on";
        Document.sentence(sentence, "mode() = 0; nextMode() = UOE;", Script.pass(0, 179), "nextMode() = UOE",
                "go(1) = 180; mode() = 0; nextMode() = 1; mode() = 1",
                "nextMode() = UOE;", Script.pass(180, 359), "nextMode() = UOE; mode() = 1; go(1) = 360; mode() = 1",
                "nextMode() = 2; mode() = 2; nextMode() = UOE; mode() = 2");
        Document.sentence(sentence, Script.pass(0, 359), "mode() = 0; nextMode() = 1; nextMode() = UOE; go(1)",
                "nextMode() = 2");
        Document.sentence(sentence, Script.pass(0, 360), "mode() = 0; nextMode() = 1; nextMode() = 2",
                "nextMode() = UOE");
        Document.sentence(sentence, Script.pass(0, 540), "mode() = 0; nextMode() = 1; nextMode() = 2; nextMode() = UOE",
                "mode() = 2; end() = g");
        String still = "while no episode goes on";
        Document.sentence(still, "episode('b', 60, 0, false);", Script.pass(0, 120), "begin(0) = 180; go(59)",
                "nextMode() = UOE; go(1) = 180; going() = NSEE; nextMode() = 1");
        Document.sentence(still, "episode('b', 60, 0, false);", Script.pass(0, 360), "begin(0); nextMode() = UOE",
                "go(59); nextMode() = UOE; mode() = 0; go(1); nextMode() = 1; episode('t', 1, 1, false); begin(1)",
                "nextMode() = UOE; go(1); nextMode() = 2");
    }

    private static void beats() {
        String sentence = "Time goes by in minutes, each of which has 10 beats of the music.";
        Document.sentence(sentence, "piece(0, 10, 0); start(0) = 10; stroke() = 10; go(1); stroke() = 10; go(7)",
                "stroke() = 10");
        Document.sentence(sentence, "piece(0, 11, 0); start(0) = 11; go(1); stroke() = 1; go(1); stroke() = 2; go(9)",
                "stroke() = 11");
        Document.sentence(sentence, "piece(0, 64, 0); start(0) = 64; go(6); stroke() = 4; go(1); stroke() = 58");
    }

    private static void order() {
        String falls = "as the minute by now is one that 10 divides, the attention falls by 1, in rain by 2";
        Document.sentence(falls, "go(9); attention() = 100; go(1); attention() = 99; go(9); attention() = 99; go(1)",
                "attention() = 98; go(100); attention() = 88");
        Document.sentence(falls, "rain(true); go(9); attention() = 100; go(1); attention() = 98; go(9); rain(false)",
                "go(1); attention() = 97; rain(true); go(9); attention() = 97; go(1); attention() = 95");
        String ends = "and then an episode may end, by which the attention rises by 5";
        Document.sentence(ends, "episode('b', 10, 0, false); begin(0); go(9); attention() = 100; go(1)",
                "attention() = 100");
        Document.sentence(ends, Script.pass(0, 100), "episode('b', 1, 0, false); begin(0); attention() = 90; go(1)",
                "attention() = 95; episode('t', 9, 0, false); begin(1); go(8); attention() = 95; go(1)",
                "attention() = 99");
        Document.sentence(ends, RAIN_TO_500, "attention() = 0; episode('b', 10, 0, false); begin(0); go(10)",
                "attention() = 5");
        Document.sentence("first the minute becomes one more and the music goes on", "piece(0, 64, 0); go(119)",
                "start(0); knock(0) = 0; go(1); stroke() = 54; knock(0) = UOE; go(6); stroke() = 58; knock(0) = 2");
    }

    private static void attention() {
        String sentence = "The attention is 100 at first, and kept from 0 to 100.";
        String clown = "person(0, 0, 'l'); figure(0); take(0); episode('b', 60, 0, false); begin(0);";
        Document.sentence(sentence, "attention() = 100; crowd(500); asleep() = 0");
        Document.sentence(sentence, clown, "speak(0, 1) = 100; attention() = 100; go(9); attention() = 99",
                "speak(0, 1) = 100");
        Document.sentence(sentence, clown, "go(20); attention() = 98; speak(0, 1) = 100; go(19); attention() = 98");
        Document.sentence(sentence, clown, "go(30); attention() = 97; speak(0, 1) = 100; go(9); attention() = 99");
        Document.sentence(sentence, clown, "go(40); attention() = 96; speak(0, 1) = 99");
        String other = clown.replace("person(0,", "person(1,");
        Document.sentence(sentence, other, "speak(0, 1) = 100; go(9); attention() = 99; speak(0, 1) = 100");
        Document.sentence(sentence, other, "go(20); attention() = 98; speak(0, 1) = 99; speak(0, 1) = 100");
        Document.sentence(sentence, "go(50); episode('b', 1, 0, false); begin(0); attention() = 95; go(1)",
                "attention() = 100");
        Document.sentence(sentence, "go(40); episode('b', 1, 0, false); begin(0); attention() = 96; go(1)",
                "attention() = 100; go(9); attention() = 99");
        Document.sentence(sentence, "go(60); episode('b', 1, 0, false); begin(0); attention() = 94; go(1)",
                "attention() = 99");
    }

    private static void attentionAtItsBounds() {
        String sentence = "The attention is 100 at first, and kept from 0 to 100.";
        Document.sentence(sentence, RAIN_TO_500, "attention() = 0; crowd(500); asleep() = 500; go(10); attention() = 0",
                "rain(false); go(10); attention() = 0; asleep() = 500");
        Document.sentence(sentence, "go(10); rain(true);", Script.pass(10, 500), "attention() = 1; crowd(500)",
                "asleep() = 495; go(9); attention() = 1; go(1); attention() = 0; go(10); attention() = 0");
        Document.sentence(sentence, "go(10); rain(true);", Script.pass(10, 500), "attention() = 1; rain(false); go(10)",
                "attention() = 0; go(10); attention() = 0");
        String voices = "person(0, 0, 'l'); person(1, 1, 'l'); figure(0); figure(1); take(0); take(1);"
                + "episode('b', 40, 0, false);";
        Document.sentence(sentence, voices, RAIN_TO_500, "begin(0); attention() = 0; speak(1, 1) = 1; speak(0, 1) = 4",
                "go(8); attention() = 2; go(10); attention() = 0; speak(0, 10) = 3; go(10); attention() = 6");
        Document.sentence(sentence, voices, RAIN_TO_500, "begin(0); speak(1, 10) = 1; speak(1, 10) = 1; go(20)",
                "minute() = 540; attention() = 5");
    }
}

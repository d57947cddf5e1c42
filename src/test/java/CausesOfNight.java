/** Of CausesTest: promises 22 to 33. */
final class CausesOfNight {
    private static final String NIGHT = CausesTest.NIGHT;
    private static final String RANGE = CausesTest.RANGE;
    private static final String NO_FIGURE = "there is no such figure";
    /** Two with the same voice and one with another, the first two in hands; a long episode that goes on. */
    private static final String VOICES = "person(1, 4, 'l'); person(1, 4, 'r'); person(0, 3, 'l'); figure(0);"
            + "figure(1); figure(2); take(0) = 0; take(1) = 1; episode('t', 60, 0, false); begin(0) = 60;";
    /** A clown and another one, in hands, who know the facts 0 and 7. */
    private static final String TELLERS = "person(0, 0, 'l'); person(1, 0, 'l'); figure(0); figure(1); take(0) = 0;"
            + "take(1) = 1; learn(0, 0); learn(1, 0); learn(0, 7); learn(1, 7);";

    private CausesOfNight() {
    }

    static void run() {
        go();
        nextMode();
        speak();
        speakWithoutRight();
        say();
        factsAndOfferings();
        wishAndEnd();
    }

    private static void go() {
        CausesTest.range(22, RANGE, "IAE", NIGHT, "go(#)", 1, 120);
        CausesTest.range(22, RANGE, "IAE", Script.pass(0, 420), "go(#)", 1, 120);
        Document.refusal(22, "it would be behind 540", Script.pass(0, 421),
                "go(120) = ISE; minute() = 421; attention() = 58; go(119) = 540; go(1) = ISE; go(120) = ISE");
        Document.refusal(22, "it would be behind 540", Script.pass(0, 539), "go(2) = ISE; go(1) = 540; go(1) = ISE");
    }

    private static void nextMode() {
        Document.refusal(25, "it is too early", "nextMode() = UOE", Script.pass(0, 179), "nextMode() = UOE; mode() = 0",
                "go(1); nextMode() = 1; nextMode() = UOE", Script.pass(180, 359), "nextMode() = UOE; mode() = 1; go(1)",
                "nextMode() = 2; mode() = 2");
        Document.refusal(25, "it is too early", "piece(0, 64, 0); start(0); go(120); knock(0) = 2; nextMode() = UOE",
                "asked() = 0; knock(0) = 2; playing() = 0; stroke() = 16; go(1); asked() = 0; nextMode() = UOE; go(1)",
                "asked() = NSEE; stroke() = 60");
        Document.refusal(25, "it is 2", Script.pass(0, 360), "nextMode() = 1; nextMode() = 2; nextMode() = UOE",
                Script.pass(360, 540), "nextMode() = UOE; mode() = 2");
        Document.refusal(25, "an episode goes on", "episode('b', 2, 0, false)", Script.pass(0, 180),
                "begin(0) = 182; nextMode() = UOE; go(1); nextMode() = UOE; mode() = 0; go(1); nextMode() = 1");
        Document.refusal(25, "an episode goes on", "episode('b', 2, 0, false)", Script.pass(0, 179),
                "begin(0) = 181; nextMode() = UOE; go(1) = 180; nextMode() = UOE; go(1); nextMode() = 1");
    }

    private static void speak() {
        CausesTest.range(26, NO_FIGURE, "IOOBE", NIGHT, "speak(#, 1) = 100", 0, 1);
        CausesTest.range(26, RANGE, "IAE", NIGHT, "speak(1, #)", 1, 20);
        Document.refusal(26, NO_FIGURE, "speak(0, 1) = IOOBE; person(1, 1, 'l'); speak(0, 1) = IOOBE");
        Document.refusal(26, "it is not out", VOICES, "speak(2, 1) = UOE; put(0, true); speak(0, 1) = 100",
                "take(2) = 0; speak(2, 1) = 100; put(2, false); speak(2, 1) = UOE; speak(0, 1) = 100; take(0)",
                "put(0, false); speak(0, 1) = UOE; minute() = 3");
        Document.refusal(26, "its person is dead", VOICES, "episode('t', 60, 0, false); tell(1, 'd', 0, 0); go(60)",
                "begin(1) = 120; speak(0, 1) = 100; go(59); isAlive(0) = false; episode('b', 60, 0, false); begin(2)",
                "go(3); speak(0, 1) = UOE; put(0, true); speak(0, 1) = UOE; speak(1, 1)");
        Document.refusal(26, "no episode goes on", VOICES, "go(59); speak(0, 1) = 100; going() = NSEE",
                "speak(0, 1) = UOE; minute() = 60; episode('t', 60, 0, false); begin(1); speak(0, 1)");
        Document.refusal(26, "it would end behind the minute 540", "person(1, 4, 'l'); figure(0); take(0)",
                "episode('t', 1, 0, false)", Script.pass(0, 521), "begin(0); speak(0, 20) = ISE; minute() = 521",
                "attention() = 48; going() = 0; speak(0, 19); minute() = 540; isPlayed(0) = true");
        Document.refusal(26, "it would end behind the minute 540", "person(1, 4, 'l'); figure(0); take(0)",
                "episode('t', 1, 0, false)", Script.pass(0, 539), "begin(0); speak(0, 2) = ISE; speak(0, 20) = ISE",
                "speak(0, 1); minute() = 540");
    }

    private static void speakWithoutRight() {
        String cause = "its voice may not";
        Document.refusal(26, cause, VOICES, "speak(0, 2); speak(1, 1) = UOE; go(1); speak(1, 1) = UOE; go(1)",
                "speak(1, 1) = UOE; minute() = 4; go(1); speak(1, 1) = 100; speak(0, 1) = UOE; speak(1, 20)");
        Document.refusal(26, cause, VOICES, "put(0, true); take(2) = 0; speak(0, 1); speak(2, 1); speak(1, 1)",
                "speak(0, 1) = UOE; speak(2, 1); speak(0, 1)");
    }

    private static void say() {
        CausesTest.range(27, NO_FIGURE, "IOOBE", TELLERS, "say(#, 7) = 0", 0, 1);
        CausesTest.range(27, RANGE, "IAE", TELLERS + Script.each(1, 6, "learn(1, #)"), "say(1, #)", 0, 7);
        Document.refusal(27, NO_FIGURE, "say(0, 0) = IOOBE; person(1, 1, 'l'); say(0, 0) = IOOBE");
        Document.refusal(27, "it is not out", TELLERS, "person(2, 0, 'r'); put(0, false); say(0, 7) = UOE; take(0)",
                "say(0, 7) = 0; put(0, true); say(0, 7) = 0");
        Document.refusal(27, "its person is dead", TELLERS, "episode('b', 1, 0, false); tell(0, 'd', 0, 0); begin(0)",
                "learn(0, 3); say(0, 7) = 0; go(1); say(0, 7) = UOE; say(0, 3) = UOE; knows(1, 3) = false",
                "say(1, 7) = 0");
        Document.refusal(27, "does not know it", TELLERS, "say(1, 6) = UOE; say(0, 6) = UOE; learn(0, 6)",
                "say(1, 6) = UOE; say(0, 6) = 1; say(1, 6) = 0");
        Document.refusal(27, "may not tell it", TELLERS, "person(2, 0, 'r'); figure(2); put(0, true); take(2)",
                "bar(0, true); say(1, 0) = UOE; knows(2, 0) = false; say(1, 7) = 1; bar(7, true); say(1, 7) = UOE",
                "say(0, 0) = 1; bar(0, false); say(1, 0) = 0; say(1, 7) = UOE");
    }

    private static void factsAndOfferings() {
        CausesTest.range(28, RANGE, "IAE", NIGHT, "bar(#, true) = false; bar(#, false) = true", 0, 7);
        CausesTest.range(28, RANGE, "IAE", NIGHT, "bar(#, false) = false", 0, 7);
        CausesTest.range(29, RANGE, "IAE", NIGHT, "wish(#) = 2", 0, 7);
        CausesTest.range(29, RANGE, "IAE", "", "wish(#) = -1", 0, 7);
        CausesTest.range(31, RANGE, "IAE", "", "offer(#)", 1, 9);
        Document.refusal(31, "there would be more than 9",
                "offer(8) = 8; offer(2) = ISE; offer(9) = ISE; offer(1) = 9; offer(1) = ISE; offer(9) = ISE");
        Document.refusal(31, "there would be more than 9", "offer(1) = 1; offer(9) = ISE; offer(8) = 9; offer(1) = ISE",
                "episode('b', 1, 0, true); begin(0); offer(2) = ISE; offer(1) = 9");
    }

    private static void wishAndEnd() {
        Document.refusal(30, "there was none", "isMet() = NSEE; person(0, 0, 'l'); figure(0); take(0); learn(0, 0)",
                "say(0, 0) = 0; isMet() = NSEE; wish(8) = IAE; isMet() = NSEE; wish(0) = -1; isMet() = false");
        Document.refusal(33, "it is not dawn", "end() = NSEE", Script.pass(0, 539), "end() = NSEE; go(1); end() = g");
    }
}

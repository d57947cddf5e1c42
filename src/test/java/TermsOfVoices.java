/** Of TermsTest: what is said of speaking, telling, barred facts and the wish. */
final class TermsOfVoices {
    /** A clown, two others, the last in the box; like voices but for the last one's; an episode goes on. */
    private static final String VOICES = "person(0, 0, 'l'); person(1, 0, 'r'); person(1, 5, 'l'); figure(0);"
            + "figure(1); figure(2); take(0) = 0; take(1) = 1; episode('t', 60, 0, false);";

    private TermsOfVoices() {
    }

    static void run() {
        speaks();
        rises();
        mayNot();
        tells();
        tellsToAll();
        barred();
        wish();
    }

    private static void speaks() {
        String sentence = "A figure that is out speaks, if its person lives and an episode goes on, for 1 to 20"
                + " minutes, which go by then";
        Document.sentence(sentence, VOICES, "begin(0); speak(0, 0) = IAE; speak(0, 21) = IAE; speak(0, 1)",
                "minute() = 1; speak(0, 20); minute() = 21; speak(0, -1) = IAE; speak(2, 1) = UOE; put(0, true)",
                "take(2); speak(2, 1); speak(0, 1); speak(2, 1); put(2, true); speak(2, 1); put(1, false)",
                "speak(1, 1) = UOE; minute() = 25");
        Document.sentence(sentence, VOICES, "speak(0, 1) = UOE; begin(0); speak(0, 1); go(59); speak(0, 1) = UOE",
                "minute() = 60; episode('b', 1, 0, false); begin(1); speak(0, 20) = 100; minute() = 80",
                "isPlayed(1) = true; speak(0, 1) = UOE");
        Document.sentence(sentence, VOICES, "tell(0, 'd', 0, 0); episode('t', 60, 0, false); begin(0); speak(0, 20)",
                "speak(0, 20); speak(0, 19); isAlive(0) = true; speak(0, 20) = 100; isAlive(0) = false; begin(1)",
                "speak(0, 1) = UOE; speak(1, 1) = UOE; go(3); speak(1, 1) = 100");
        Document.sentence(sentence, VOICES, "piece(0, 64, 0); start(0); begin(0); speak(0, 6); stroke() = 4",
                "speak(0, 1); stroke() = 58");
        Document.sentence(sentence, VOICES, Script.pass(0, 480), "begin(0) = 540; go(40); speak(0, 20); minute() = 540",
                "isPlayed(0) = true; speak(0, 1) = UOE");
        Document.sentence(sentence, VOICES, Script.pass(0, 480), "begin(0) = 540; go(41); speak(0, 20) = ISE",
                "speak(0, 19); minute() = 540");
    }

    private static void rises() {
        String sentence = "behind them the attention rises by 1, or by 3 if it is a clown's and the mode is not 2";
        Document.sentence(sentence, VOICES, Script.pass(0, 120), "begin(0); attention() = 88; speak(1, 1) = 89",
                "speak(1, 8) = 90; speak(1, 1) = 90; go(3); speak(0, 1) = 93; speak(0, 6) = 95; attention() = 95");
        Document.sentence(sentence, VOICES, "episode('t', 60, 1, false);", Script.pass(0, 180), "nextMode() = 1",
                "begin(1); attention() = 82; speak(0, 1) = 85; go(3); speak(1, 1) = 86");
        Document.sentence(sentence, VOICES, "episode('t', 60, 2, false);", Script.pass(0, 360),
                "nextMode() = 1; nextMode() = 2; begin(1); attention() = 64; speak(0, 1) = 65; go(3)",
                "speak(1, 1) = 66");
        Document.sentence(sentence, VOICES, "begin(0); go(9); speak(1, 1) = 100; go(9); speak(1, 20) = 99");
    }

    private static void mayNot() {
        String sentence = "It may not if the last speech was of the same voice, but of another person,"
                + " and ended less than 3 minutes ago.";
        Document.sentence(sentence, VOICES, "begin(0); speak(1, 1); speak(0, 1) = UOE; go(1); speak(0, 1) = UOE; go(1)",
                "speak(0, 1) = UOE; minute() = 3; go(1); speak(0, 1); speak(1, 1) = UOE; speak(0, 1)",
                "speak(1, 1) = UOE");
        Document.sentence(sentence, VOICES, "begin(0); speak(1, 20); speak(0, 1) = UOE; go(2); speak(0, 1) = UOE",
                "go(1); speak(0, 20); minute() = 43");
        Document.sentence(sentence, VOICES, "begin(0); put(0, true); take(2); speak(0, 1); speak(2, 1); speak(0, 1)",
                "speak(2, 1); speak(1, 1); speak(0, 1) = UOE; speak(2, 1); speak(0, 1)");
        Document.sentence(sentence, VOICES, "begin(0); figure(0) = 3; speak(0, 1); put(0, false); take(3); speak(3, 1)",
                "speak(1, 1) = UOE; speak(3, 1)");
        Document.sentence(sentence, VOICES, "begin(0); speak(0, 1); go(2); speak(1, 1) = UOE; speak(1, 0) = IAE; go(1)",
                "speak(1, 1)");
        Document.sentence(sentence, VOICES, "episode('t', 9, 0, false); begin(0); go(58); speak(0, 2); begin(1)",
                "speak(1, 1) = UOE; go(2); speak(1, 1) = UOE; go(1); speak(1, 1)");
        Document.sentence(sentence, VOICES, "episode('t', 9, 1, false);", Script.pass(0, 120), "begin(0); go(58)",
                "speak(0, 2); nextMode() = 1; begin(1); speak(1, 1) = UOE; go(3); speak(1, 1)");
    }

    private static void tells() {
        String sentence = "A person that lives, whose figure is out, can tell a fact that it knows";
        Document.sentence(sentence, VOICES, "say(1, 0) = UOE; learn(1, 0); say(1, 0) = 1; knows(0, 0) = true",
                "minute() = 0; say(1, 7) = UOE; learn(1, 7); say(1, 7) = 1; say(1, 8) = IAE; say(1, -1) = IAE",
                "say(3, 0) = IOOBE; learn(2, 5); say(2, 5) = UOE; put(1, true); say(1, 0) = 0; take(2); say(2, 5) = 2",
                "put(1, true) = UOE");
        Document.sentence(sentence, VOICES, "learn(0, 1); episode('b', 1, 0, false); tell(1, 'd', 0, 0); begin(1)",
                "say(0, 1) = 1; go(1); say(0, 1) = UOE; say(1, 1) = 0; learn(0, 2); say(0, 2) = UOE",
                "knows(1, 2) = false");
    }

    private static void tellsToAll() {
        String sentence = "all persons with figures out, who live, know it then";
        Document.sentence(sentence, Script.each(0, 4, "person(1, 0, 'l'); figure(#); take(#); put(#, true)"),
                Script.each(5, 9, "person(1, 0, 'r'); figure(#); take(#); put(#, true)"),
                Script.each(10, 11, "person(1, 0, 'r'); figure(#); take(#)"), Script.each(0, 7, "figure(#)"),
                "learn(0, 7); say(0, 7) = 11;", Script.each(0, 11, "knows(#, 7) = true; knows(#, 6) = false"),
                "learn(11, 0); learn(3, 0); say(11, 0) = 10; say(11, 0) = 0; put(10, true); learn(10, 3)",
                "say(10, 3) = 11");
        Document.sentence(sentence, Script.each(0, 3, "person(1, 0, 'l'); figure(#)"), "take(0); take(1); put(1, true)",
                "take(2); episode('b', 1, 0, false); tell(0, 'd', 1, 0); begin(0); go(1); learn(0, 4); say(0, 4) = 1",
                "knows(1, 4) = false; knows(2, 4) = true; knows(3, 4) = false; put(2, true); take(3); say(2, 4) = 1",
                "knows(3, 4) = true; learn(1, 4) = 1");
        Document.sentence(sentence, "person(0, 0, 'l'); figure(0); take(0); learn(0, 0); say(0, 0) = 0");
    }

    private static void barred() {
        String sentence = "A fact can be barred: then only clowns may tell it.";
        String two = "person(0, 0, 'l'); person(1, 0, 'l'); figure(0); figure(1); take(0); take(1);"
                + Script.each(0, 7, "learn(0, #); learn(1, #)");
        Document.sentence(sentence, two, Script.each(0, 7, "say(1, #) = 0; bar(#, true) = false; say(1, #) = UOE;"
                + "say(0, #) = 0; bar(#, true) = true"), Script.each(0, 6, "bar(#, false) = true; say(1, #) = 0"),
                "say(1, 7) = UOE; bar(7, false) = true; bar(7, false) = false; say(1, 7) = 0; bar(8, true) = IAE");
        Document.sentence(sentence, two, "bar(3, true) = false; say(1, 2) = 0; say(1, 4) = 0; say(1, 3) = UOE");
    }

    private static void wish() {
        String sentence = "The host can wish for a fact, the latest wish counting; a wish is met as a clown tells it"
                + " behind that.";
        String two = "person(0, 0, 'l'); person(1, 0, 'l'); figure(0); figure(1); take(0); take(1); learn(0, 0);"
                + "learn(0, 7); learn(1, 0); learn(1, 7);";
        Document.sentence(sentence, two, "isMet() = NSEE; say(0, 0) = 0; isMet() = NSEE; wish(0) = -1; isMet() = false",
                "say(1, 0) = 0; isMet() = false; say(0, 7) = 0; isMet() = false; say(0, 0) = 0; isMet() = true",
                "say(1, 7) = 0; isMet() = true; wish(0) = 0; isMet() = false; say(0, 0) = 0; isMet() = true");
        Document.sentence(sentence, two, "wish(0) = -1; say(0, 0) = 0; wish(7) = 0; isMet() = false; say(0, 0) = 0",
                "isMet() = false; say(0, 7) = 0; isMet() = true; wish(0) = 7; isMet() = false; wish(8) = IAE",
                "wish(-1) = IAE; isMet() = false; say(0, 0) = 0; isMet() = true; wish(9) = IAE; isMet() = true");
        Document.sentence(sentence, two, "wish(3) = -1; say(0, 3) = UOE; isMet() = false; learn(0, 3); put(0, false)",
                "say(0, 3) = UOE; isMet() = false; take(0); bar(3, true); say(0, 3) = 1; isMet() = true");
    }
}

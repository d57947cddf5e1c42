/** Promises 1 and 22 to 33. */
public final class NightTest {
    private static final String TO_DAWN = "go(120); go(120); go(120); go(120); go(60) = 540;";

    public static void main(String[] args) {
        newObject();
        go();
        minuteAndMode();
        nextMode();
        speak();
        speakRefused();
        voices();
        say();
        bar();
        wishAndIsMet();
        offer();
        tree();
        end();
        Document.closePromises(1, 1);
        Document.closePromises(22, 33);
        Script.close("NightTest");
    }

    private static void newObject() {
        Document.promise(1, "Creates a night at the minute 0, without persons, figures, episodes and pieces; the tree"
                + " of life is up.",
                "minute() = 0; mode() = 0; attention() = 100; asleep() = 0; left() = 0; isLost() = false",
                "isAlive(0) = IOOBE; where(0) = IOOBE; isPlayed(0) = IOOBE; going() = NSEE",
                "playing() = NSEE; asked() = NSEE; isMet() = NSEE; crowd(0) = 0; rain(false) = false",
                "piece(0, 4, 0) = 0; orders() = 1; checksum() = 217; isSound() = true; tree(true) = true");
    }

    private static void go() {
        Document.promise(22, "Lets minutes go by. Returns the minute then.",
                "go(0) = IAE; go(121) = IAE; go(-1) = IAE; go(2147483647) = IAE",
                "go(1) = 1; go(120) = 121; go(120) = 241; go(120) = 361; go(120) = 481; go(60) = ISE",
                "minute() = 481; attention() = 52; go(121) = IAE; go(59) = 540; go(1) = ISE; go(0) = IAE",
                "minute() = 540");
        Script.run("22 go, an episode ends on the way",
                "episode('t', 5, 0, false); go(120); begin(0) = 125; attention() = 88; go(4); attention() = 88",
                "go(120) = 244; isPlayed(0) = true; attention() = 81");
    }

    private static void minuteAndMode() {
        Document.promise(23, "Returns the minute. Returns the number.",
                "minute() = 0; go(7); minute() = 7; go(121) = IAE; minute() = 7");
        Document.promise(24, "Returns the mode. Returns 0, 1 or 2.",
                "mode() = 0; " + TO_DAWN, "mode() = 0; nextMode() = 1; mode() = 1",
                "nextMode() = 2; mode() = 2; nextMode() = UOE; mode() = 2");
    }

    private static void nextMode() {
        Document.promise(25, "Lets the mode go on. Returns the mode then.",
                "nextMode() = UOE; go(120); go(59); nextMode() = UOE; mode() = 0; go(1); nextMode() = 1",
                "nextMode() = UOE; go(120); go(59); nextMode() = UOE; go(1) = 360; nextMode() = 2",
                "nextMode() = UOE");
        Script.run("25 nextMode, an episode goes on",
                "episode('t', 5, 0, false); go(120); go(60); begin(0); nextMode() = UOE; go(4)",
                "nextMode() = UOE; go(1); nextMode() = 1");
        Script.run("25 nextMode, the music ends",
                "piece(0, 64, 0); piece(1, 10, 1); go(120); go(60); start(0); knock(0) = 2; nextMode() = 1",
                "playing() = NSEE; asked() = NSEE; stroke() = NSEE; start(0) = UOE",
                "start(1) = 10; asked() = NSEE; go(10); playing() = 1");
    }

    private static void speak() {
        Document.promise(26, "Lets a figure speak. Returns the attention then.",
                "person(0, 0, 'l'); person(1, 1, 'l'); figure(0); figure(1); take(0); take(1); put(1, true)",
                "rain(true); go(120); go(120); attention() = 52; episode('t', 60, 0, false); begin(0)",
                "speak(0, 1) = 55; minute() = 241; speak(1, 1) = 56; speak(1, 20) = 53; minute() = 262",
                "speak(0, 8) = 54; minute() = 270; rain(false); speak(0, 20) = 55; minute() = 290");
        Script.run("26 speak, a clown in the last mode",
                "person(0, 0, 'l'); figure(0); take(0); go(120); go(120); go(120); nextMode() = 1; nextMode() = 2",
                "episode('b', 60, 2, false); begin(0); attention() = 64; speak(0, 1) = 65; speak(0, 9) = 65");
        Script.run("26 speak, a clown in the middle mode",
                "person(0, 0, 'l'); figure(0); take(0); go(120); go(120); nextMode() = 1",
                "episode('b', 60, 1, false); begin(0); attention() = 76; speak(0, 1) = 79");
        Script.run("26 speak, the episode ends and the speaker dies",
                "person(0, 0, 'l'); person(1, 0, 'l'); figure(0); figure(1); take(0); take(1)",
                "episode('t', 2, 0, false); episode('t', 9, 0, false); tell(0, 'd', 0, 0); go(120); go(120)",
                "begin(0); attention() = 76; speak(0, 4) = 84; isAlive(0) = false; isPlayed(0) = true",
                "begin(1); speak(0, 1) = UOE; speak(1, 1) = UOE; go(3); speak(1, 1) = 85");
        Script.run("26 speak, never above 100",
                "person(0, 0, 'l'); figure(0); take(0); episode('t', 20, 0, false); begin(0); speak(0, 1) = 100",
                "speak(0, 10) = 100; speak(0, 9) = 100");
    }

    private static void speakRefused() {
        Script.run("26 speak, what is refused",
                "speak(0, 0) = IOOBE; person(1, 0, 'l'); figure(0); speak(1, 1) = IOOBE",
                "speak(-1, 1) = IOOBE; speak(0, 0) = IAE; speak(0, 21) = IAE",
                "episode('t', 10, 0, false); speak(0, 1) = UOE; take(0); speak(0, 1) = UOE; begin(0)",
                "speak(0, 10) = 100; speak(0, 1) = UOE; episode('t', 60, 0, false); begin(1); put(0, true)",
                "speak(0, 20) = 99; take(0); put(0, false); speak(0, 1) = UOE; speak(0, 0) = IAE");
        Script.run("26 speak, behind dawn",
                "person(1, 0, 'l'); person(1, 0, 'l'); figure(0); figure(1); take(0)",
                "episode('t', 20, 0, false); go(120); go(120); go(120); go(120); go(50); begin(0) = UOE",
                "episode('t', 10, 0, false); begin(1) = 540; speak(0, 11) = ISE; speak(1, 11) = UOE",
                "speak(0, 21) = IAE; minute() = 530; speak(0, 10) = 52; minute() = 540; speak(0, 1) = UOE");
    }

    private static void voices() {
        String start = "person(1, 4, 'l'); person(0, 4, 'r'); person(1, 3, 'l'); figure(0); figure(1); figure(2);"
                + "figure(0); take(0); put(0, true); take(1); take(2); episode('t', 60, 0, false); begin(0);";
        Script.run("26 speak, like voices", start,
                "speak(0, 2); speak(1, 1) = UOE; go(2); speak(1, 1) = UOE; go(1); speak(1, 1) = 100",
                "speak(0, 1) = UOE; speak(1, 1); speak(2, 1); speak(0, 1); speak(2, 1); speak(1, 1)");
        Script.run("26 speak, by another figure of the person", start,
                "speak(0, 2); put(2, true); take(0) = 1; put(0, false); take(3) = 1; speak(3, 1); speak(1, 1) = UOE");
        Script.run("26 speak, in another episode", start,
                "go(58); speak(0, 2); isPlayed(0) = true; episode('b', 5, 0, false); begin(1); speak(1, 1) = UOE",
                "speak(2, 1); speak(1, 1)");
        Script.run("26 speak, the last speech alone counts", start,
                "speak(0, 1); go(2); speak(2, 1); speak(1, 1); speak(0, 1) = UOE");
    }

    private static void say() {
        Document.promise(27, "Lets a person tell a fact by its figure. Returns how many persons know it newly.",
                "say(0, 8) = IOOBE; person(0, 0, 'l'); person(1, 1, 'r'); person(2, 1, 'r'); person(3, 1, 'l')",
                Script.each(0, 3, "figure(#)"), "say(-1, 0) = IOOBE; say(4, 0) = IOOBE",
                "say(0, 8) = IAE; say(0, -1) = IAE; say(0, 2) = UOE; learn(0, 2); say(0, 2) = UOE",
                "take(0); say(0, 2) = 0; say(0, 3) = UOE; take(1); say(0, 2) = 1; say(0, 2) = 0",
                "put(1, true); take(2); put(2, true); take(3); learn(1, 6); learn(3, 6); say(1, 6) = 2",
                "knows(0, 6) = true; knows(2, 6) = true; knows(2, 2) = false; minute() = 0",
                "put(0, false); say(3, 6) = 0; learn(0, 7); put(3, false); learn(1, 5); say(1, 5) = 1",
                "knows(0, 5) = false; knows(2, 5) = true; knows(3, 5) = false");
        Script.run("27 say, the dead",
                "person(1, 0, 'l'); person(1, 1, 'r'); figure(0); figure(1); take(0); take(1); learn(0, 1)",
                "learn(1, 2); episode('t', 1, 0, false); tell(0, 'd', 1, 0); begin(0); go(1); say(1, 2) = UOE",
                "say(0, 1) = 0; knows(1, 1) = false; where(1) = 1; learn(1, 1) = 2");
        Script.run("27 say, what is barred",
                "person(0, 0, 'l'); person(1, 0, 'l'); figure(0); figure(1); take(0); take(1)",
                "learn(0, 1); learn(1, 3); bar(1, true); bar(3, true); say(1, 3) = UOE; say(0, 1) = 1",
                "say(1, 1) = UOE; bar(1, false); say(1, 1) = 0; bar(3, false); say(1, 3) = 1");
    }

    private static void bar() {
        Document.promise(28, "Bars a fact, or lets it be told. Returns whether it was barred.",
                "bar(-1, true) = IAE; bar(8, false) = IAE; bar(0, false) = false; bar(0, true) = false",
                "bar(0, true) = true; bar(7, true) = false; bar(1, true) = false; bar(0, false) = true",
                "bar(0, false) = false; bar(7, false) = true; bar(1, false) = true; bar(1, true) = false");
    }

    private static void wishAndIsMet() {
        Document.promise(29, "Lets the host wish for a fact. Returns the wish before, -1 for none.",
                "wish(-1) = IAE; wish(8) = IAE; isMet() = NSEE; wish(0) = -1; wish(7) = 0; wish(7) = 7",
                "wish(9) = IAE; wish(3) = 7");
        Document.promise(30, "Tells whether the latest wish is met. Returns true if so.",
                "person(0, 0, 'l'); person(1, 0, 'l'); figure(0); figure(1); take(0); take(1)",
                "learn(0, 1); learn(1, 1); learn(0, 2); isMet() = NSEE; say(0, 1) = 0; isMet() = NSEE",
                "wish(1) = -1; isMet() = false; say(1, 1) = 0; isMet() = false; say(0, 2) = 1; isMet() = false",
                "say(0, 5) = UOE; say(0, 1) = 0; isMet() = true; say(0, 2) = 0; isMet() = true",
                "wish(1) = 1; isMet() = false; say(0, 1) = 0; isMet() = true; wish(2) = 1; isMet() = false",
                "say(0, 1) = 0; isMet() = false; bar(2, true); say(0, 2) = 0; isMet() = true; wish(8) = IAE",
                "isMet() = true");
    }

    private static void offer() {
        Document.promise(31, "Brings offerings. Returns how many there are.",
                "offer(0) = IAE; offer(10) = IAE; offer(-2147483648) = IAE; offer(1) = 1; offer(7) = 8",
                "offer(2) = ISE; offer(10) = IAE; offer(1) = 9; offer(1) = ISE");
        Script.run("31 offer, at once", "offer(9) = 9; offer(9) = ISE; episode('b', 1, 0, true); begin(0) = 1",
                "offer(2) = ISE; offer(1) = 9");
    }

    private static void tree() {
        Document.promise(32, "Lays the tree of life down, or plants it. Returns whether it was up.",
                "tree(false) = true; tree(false) = false; tree(true) = false; tree(true) = true");
    }

    private static void end() {
        Document.promise(33, "Returns how the night is told. Returns 't', 'u', 'h' or 'g'.",
                "end() = NSEE; person(1, 0, 'l'); person(1, 1, 'l'); figure(0); figure(1); take(0); take(1)",
                "put(0, false); episode('t', 10, 0, false); episode('b', 10, 0, false)",
                "go(120); go(120); go(120); go(120); go(50); begin(0); tree(false); go(9); end() = NSEE",
                "go(1); end() = u; tree(true); end() = h; put(1, true); end() = g; take(0) = 0; end() = h",
                "episode('t', 1, 0, false); tree(false); end() = t");
        Script.run("33 end, of nothing", TO_DAWN, "end() = g; tree(false) = true; end() = u");
    }
}

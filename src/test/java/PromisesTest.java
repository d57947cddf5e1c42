/** What the promises say besides their exceptions, quoted: what is returned, and at the bounds of it. */
public final class PromisesTest {
    public static void main(String[] args) {
        newObject();
        stage();
        epic();
        night();
        music();
        checksum();
        shares();
        sound();
        Script.close("PromisesTest");
    }

    private static void newObject() {
        Document.sentence("Creates a night at the minute 0, without persons, figures, episodes and pieces;"
                + " the tree of life is up.", "minute() = 0; isAlive(0) = IOOBE; where(0) = IOOBE; isPlayed(0) = IOOBE",
                "start(0) = UOE; tree(true) = true;", Script.pass(0, 540), "end() = g");
    }

    private static void stage() {
        String three = Script.each(0, 2, "person(1, 1, 'l'); figure(#)");
        Document.sentence("Returns how many facts it knows.", "person(1, 1, 'l');", Script.each(0, 6, "learn(0, #)"),
                "learn(0, 0) = 7; learn(0, 6) = 7; learn(0, 7) = 8; learn(0, 7) = 8; person(1, 1, 'l')",
                "learn(1, 0) = 1");
        Document.sentence("Takes a figure into a hand, the lower one that is free.", three,
                "take(2) = 0; take(1) = 1; put(2, false) = 0; take(0) = 0; put(1, true) = 1; put(0, true) = 0",
                "take(1) = 0; take(0) = 1; where(0) = 1; where(1) = 0");
        Document.sentence("Returns the hand that is free.", three, "take(0); take(1); put(0, true) = 0",
                "put(1, true) = 1; take(1) = 0; take(0) = 1; put(0, false) = 1; put(1, false) = 0");
        Document.sentence("the place, from 0", three, "take(1); put(1, true); onStem('l', 0) = 1",
                "onStem('l', 1) = NSEE; onStem('l', -1) = NSEE; onStem('r', 0) = NSEE");
    }

    private static void epic() {
        Document.sentence("the fact, 0 to 7, of no meaning by 'a' and 'd'", "person(1, 1, 'l')",
                "episode('b', 1, 0, false); tell(0, 'a', 0, 8) = 1; tell(0, 'd', 0, -1) = 2; tell(0, 'k', 0, 8) = IAE",
                "tell(0, 'f', 0, -1) = IAE; tell(0, 'a', 0, -2147483648) = 3; tell(0, 'd', 0, 2147483647) = 4",
                "bars(0) = -; begin(0); go(1); isAlive(0) = false; knows(0, 0) = false; knows(0, 7) = false");
        Document.sentence("Returns the letter, '-' for nothing.", "episode('b', 1, 0, false); bars(0) = -");
        Document.sentence("Returns the minute at which it ends.", "episode('b', 1, 0, false)",
                "episode('b', 60, 0, false); begin(0) = 1; go(3)",
                "begin(1) = 63;", Script.pass(3, 539), "episode('t', 1, 0, false); begin(2) = 540");
    }

    private static void night() {
        Document.sentence("Returns how many persons know it newly.", "person(0, 0, 'l'); person(1, 0, 'l'); figure(0)",
                "figure(1); take(0); learn(0, 0); say(0, 0) = 0; take(1); say(0, 0) = 1; say(0, 0) = 0; say(1, 0) = 0");
        Document.sentence("Returns whether it was barred.", "bar(0, true) = false; bar(0, true) = true",
                "bar(0, false) = true; bar(0, false) = false; bar(7, true) = false; bar(0, false) = false",
                "bar(7, false) = true");
        Document.sentence("Returns the wish before, -1 for none.", "wish(0) = -1; wish(7) = 0; wish(7) = 7",
                "wish(8) = IAE; wish(0) = 7");
        Document.sentence("Returns how many there are.", "offer(1) = 1; offer(7) = 8; offer(1) = 9; offer(1) = ISE");
        Document.sentence("Returns whether it was up.", "tree(true) = true; tree(false) = true; tree(false) = false",
                "tree(true) = false");
    }

    private static void music() {
        Document.sentence("Tells a piece, anew if it was told.", "piece(0, 4, 0); piece(0, 9, 1); start(0) = UOE",
                "piece(0, 7, 0) = 9; start(0) = 7");
        Document.sentence("Returns its cycle before, 0 without one.", "piece(7, 64, 0) = 0; piece(7, 4, 0) = 64",
                "piece(7, 4, 1) = 4; piece(6, 4, 0) = 0; piece(6, 3, 0) = IAE; piece(6, 5, 0) = 4");
        Document.sentence("Returns the beats up to its first great stroke.", "piece(0, 4, 0); go(1); start(0) = 4");
        Document.sentence("Returns in how many beats it is read.", "piece(0, 4, 0); start(0); knock(0) = 0");
        Document.sentence("Returns the number before.", "crowd(500) = 0; crowd(0) = 500; crowd(501) = IAE",
                "crowd(1) = 0");
        Document.sentence("Returns those who watch times 100 less the attention, divided by 100, cut.",
                "crowd(500); asleep() = 0; go(10); asleep() = 5; crowd(99) = 500; asleep() = 0; crowd(100)",
                "asleep() = 1; crowd(199); asleep() = 1; crowd(200); asleep() = 2; go(40); asleep() = 10; crowd(19)",
                "asleep() = 0; crowd(20); asleep() = 1; crowd(0); asleep() = 0");
        Document.sentence("Returns whether it did.", "rain(false) = false; rain(true) = false; rain(true) = true",
                "rain(false) = true");
    }

    private static void checksum() {
        String sentence = "Returns 7 at first, then for each person 31 times itself plus 256 if it lives, and 2 to the"
                + " power of each fact that it knows";
        Document.sentence(sentence, "checksum() = " + 7 * 31, "person(1, 1, 'l'); checksum() = " + (7 * 31 + 256) * 31,
                "learn(0, 0); checksum() = " + (7 * 31 + 257) * 31, "learn(0, 7); checksum() = " + (7 * 31 + 385) * 31,
                "episode('b', 1, 0, false); tell(0, 'd', 0, 0); begin(0); go(1)",
                "checksum() = " + (((7 * 31 + 129) * 31 + 1) * 31 + 1));
        String rest = "then for each figure 31 times itself plus the letter of where it is as a number, then for each"
                + " episode 31 times itself plus 1 if it was played, then 31 times itself plus the minute.";
        int person = 7 * 31 + 256;
        Document.sentence(rest, "person(1, 1, 'l'); figure(0); checksum() = " + (person * 31 + 98) * 31,
                "take(0); checksum() = " + (person * 31 + 48) * 31, "put(0, true)",
                "checksum() = " + (person * 31 + 115) * 31);
        Document.sentence(rest, "episode('t', 1, 0, false); episode('b', 1, 0, false)",
                "checksum() = " + 7 * 31 * 31 * 31,
                "begin(1); checksum() = " + 7 * 31 * 31 * 31, "go(1)", "checksum() = " + ((7 * 31 * 31 + 1) * 31 + 1),
                "begin(0); go(1); checksum() = " + (((7 * 31 + 1) * 31 + 1) * 31 + 2), "go(120)",
                "checksum() = " + (((7 * 31 + 1) * 31 + 1) * 31 + 122));
    }

    private static void shares() {
        Document.sentence("Returns their number divided by that of all, both converted to float.",
                "episode('b', 1, 0, false); episode('t', 1, 0, false); episode('t', 1, 0, false); begin(2)",
                "playedShare() = 0.0; go(1); playedShare() = " + (float) 1 / (float) 3, "begin(0); go(1)",
                "playedShare() = " + (float) 2 / (float) 3, "begin(1); go(1); playedShare() = 1.0");
        Document.sentence("Returns the sum divided by their number, both converted to double.",
                "episode('b', 1, 0, false); episode('t', 60, 0, false); episode('b', 60, 0, false); begin(0); go(1)",
                "meanLength() = 1.0; begin(1); go(60); meanLength() = 30.5; begin(2); go(60)",
                "meanLength() = " + 121.0 / 3.0);
    }

    private static void sound() {
        String sentence = "Tells whether each episode that was played came behind all that must be before it; of each"
                + " person one figure at most is out, in each hand one at most; stems are in their order; and nobody"
                + " dies in a branch whom the trunk needs alive.";
        Document.sentence(sentence, "isSound() = true; person(3, 1, 'l'); person(5, 1, 'l'); person(3, 1, 'l')",
                "figure(0); figure(1); figure(2); take(0); put(0, true); take(2); put(2, true); take(1)",
                "put(1, true); isSound() = true; take(0); take(1); isSound() = true; put(0, true); put(1, true)",
                "isSound() = true");
        Document.sentence(sentence, Script.each(0, 2, "person(1, 1, 'l')"), "episode('t', 1, 0, false)",
                "episode('b', 1, 0, false); before(0, 1); tell(0, 'a', 0, 0); tell(1, 'd', 0, 0); isSound() = true",
                "begin(0); go(1); begin(1); go(1); isSound() = true; episode('b', 1, 0, false); tell(2, 'd', 1, 0)",
                "episode('t', 1, 0, false); tell(3, 'd', 2, 0); tell(3, 'a', 2, 0); isSound() = true; begin(3)",
                "isSound() = true; go(1); isSound() = true");
    }
}

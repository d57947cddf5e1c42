/** Of TermsTest: what is said of what is left, of the radio, of dawn and of exceptions. */
final class TermsOfWhatIsLeft {
    private static final String TRUNK = "episode('t', 60, 0, false);";
    private static final String BRANCH = "episode('b', 60, 0, false);";

    private TermsOfWhatIsLeft() {
    }

    static void run() {
        left();
        lostByModeAndDead();
        lostByMinutes();
        ordersOfMany();
        orders();
        ordersBehindTheOneThatGoesOn();
        radio();
        dawn();
        told();
        exceptions();
    }

    private static void left() {
        String sentence = "The episodes of the trunk that were not played, the one that goes on, too, are left.";
        Document.sentence(sentence, "left() = 0;", BRANCH, "left() = 0;", TRUNK, "left() = 1;", TRUNK, "left() = 2",
                "begin(1); left() = 2; go(59); left() = 2; go(1); left() = 1; begin(0); left() = 1; go(60); left() = 1",
                "begin(2); left() = 1; go(60); left() = 0");
        Document.sentence(sentence, Script.each(0, 19, TRUNK), "left() = 20; begin(19); left() = 20; go(60)",
                "left() = 19");
    }

    private static void lostByModeAndDead() {
        String mode = "The trunk is lost if one of these has a mode that is over";
        Document.sentence(mode, "isLost() = false; episode('b', 1, 0, false); episode('t', 1, 1, false)",
                "episode('t', 1, 2, false);", Script.pass(0, 360), "isLost() = false; nextMode() = 1; isLost() = false",
                "nextMode() = 2; isLost() = true");
        Document.sentence(mode, "episode('t', 1, 0, false);", Script.pass(0, 180), "isLost() = false; begin(0); go(1)",
                "nextMode() = 1; isLost() = false; episode('t', 1, 1, false); isLost() = false",
                "episode('t', 1, 0, false); isLost() = true");
        String dead = "or needs somebody alive who is dead";
        String two = "person(1, 1, 'l'); person(1, 1, 'l'); episode('t', 2, 0, false); episode('t', 2, 0, false);"
                + "episode('b', 2, 0, false);";
        Document.sentence(dead, two, "tell(0, 'd', 0, 0); tell(0, 'a', 0, 0); tell(1, 'a', 0, 0); isLost() = false",
                "begin(0); go(1); isLost() = false; go(1); isLost() = true; end() = NSEE");
        Document.sentence(dead, two, "tell(0, 'd', 0, 0); tell(0, 'a', 0, 0); tell(1, 'a', 1, 0); tell(2, 'a', 0, 0)",
                "tell(1, 'k', 0, 0); begin(0); go(2); isLost() = false");
    }

    private static void lostByMinutes() {
        String sentence = "or the minutes of all of them but the one that goes on, with the minutes that are left of"
                + " that, also if it is of a branch, are more than those up to 540.";
        Document.sentence(sentence, Script.each(0, 8, TRUNK), "isLost() = false;", BRANCH, "isLost() = false; go(1)",
                "isLost() = true");
        Document.sentence(sentence, Script.each(0, 8, TRUNK), "episode('t', 1, 0, false); isLost() = true");
        Document.sentence(sentence, Script.each(0, 8, TRUNK), "begin(4); isLost() = false; go(1); isLost() = false",
                "go(58); isLost() = false; go(1); isLost() = false; begin(0); go(60); isLost() = false; go(1)",
                "isLost() = true");
        Document.sentence(sentence, Script.each(0, 7, TRUNK), "go(1); begin(0)",
                "isLost() = false;", TRUNK, "isLost() = true");
        Document.sentence(sentence, Script.each(0, 7, TRUNK), BRANCH, "begin(8); isLost() = false; go(30)",
                "isLost() = false; go(30); isLost() = false; go(1); isLost() = true");
        Document.sentence(sentence, Script.each(0, 7, TRUNK), BRANCH, "go(1); isLost() = false; begin(8)",
                "isLost() = true; go(59); isLost() = true; go(1); isLost() = true");
        Document.sentence(sentence, Script.pass(0, 540), "isLost() = false;", BRANCH, "isLost() = false",
                "episode('t', 1, 2, false); isLost() = true");
    }

    private static void ordersOfMany() {
        String none = "of none there is one order.";
        Document.sentence(none, "orders() = 1;", BRANCH, "orders() = 1;", TRUNK, "orders() = 1; begin(1); orders() = 1",
                "go(60); left() = 0; orders() = 1; begin(0); orders() = 1");
        String sentence = "An order of those that are left";
        Document.sentence(sentence, TRUNK, TRUNK, "orders() = 2;", TRUNK, "orders() = 6;", TRUNK, "orders() = 24;",
                TRUNK, "orders() = 120;", TRUNK, "orders() = 720;", BRANCH, "orders() = 720;", TRUNK,
                "orders() = UOE; begin(6); orders() = UOE; go(60); begin(0); orders() = UOE; go(59); orders() = UOE",
                "go(1); orders() = 720; begin(1); orders() = 120");
        Document.sentence("whatever modes, offerings and time", Script.each(0, 2, "episode('t', 60, #, true)"),
                "orders() = 6;", Script.pass(0, 540), "orders() = 6; nextMode() = 1; nextMode() = 2; orders() = 6",
                "isLost() = true");
    }

    private static void orders() {
        String ahead = "is good if each has ahead of it, or played, all that must be played before it, also of"
                + " branches, which are not played in an order";
        Document.sentence(ahead, TRUNK, TRUNK, TRUNK, BRANCH, TRUNK, "before(0, 1) = 1; orders() = 12",
                "before(1, 2) = 2; orders() = 4; before(3, 4) = 3; orders() = 0; begin(3); go(60); orders() = 4",
                "begin(0); go(60); orders() = 3; begin(4); go(60); orders() = 1");
        Document.sentence(ahead, TRUNK, BRANCH, TRUNK, "before(0, 1) = 1; before(1, 2) = 2; orders() = 0; begin(0)",
                "go(60); orders() = 0; begin(1); go(60); orders() = 1");
        String needs = "and what it needs, by those ahead of it";
        String start = "person(1, 1, 'l'); person(1, 1, 'l');" + TRUNK + TRUNK + TRUNK;
        Document.sentence(needs, start, "tell(1, 'k', 1, 7) = 1; orders() = 0; tell(0, 'f', 1, 7); orders() = 3",
                "tell(1, 'f', 0, 0); tell(2, 'k', 0, 0); orders() = 1; learn(0, 0); orders() = 3; learn(1, 7)",
                "orders() = 6");
        Document.sentence(needs, start, "tell(1, 'a', 1, 0); orders() = 6; tell(0, 'd', 1, 0); orders() = 3",
                "tell(2, 'd', 1, 0); orders() = 2; tell(2, 'a', 1, 0); orders() = 1; tell(0, 'a', 1, 0); orders() = 0",
                "isLost() = false");
        Document.sentence(needs, start, "tell(1, 'd', 1, 0); tell(1, 'a', 1, 0); orders() = 6; tell(1, 'f', 1, 3)",
                "tell(1, 'k', 1, 3); orders() = 0; tell(0, 'f', 1, 3); orders() = 3");
        Document.sentence(needs, start, "tell(0, 'f', 1, 3); tell(0, 'd', 1, 0); tell(1, 'k', 1, 3); begin(0); go(60)",
                "orders() = 2; tell(2, 'a', 1, 0); orders() = 0; isLost() = true");
    }

    private static void ordersBehindTheOneThatGoesOn() {
        String sentence = "but for the one that goes on, which ends ahead of all with its effects";
        String start = "person(1, 1, 'l'); person(1, 1, 'l');" + TRUNK + TRUNK + TRUNK + BRANCH;
        Document.sentence(sentence, start, "before(0, 1); before(0, 2); tell(0, 'f', 0, 0); tell(1, 'k', 0, 0)",
                "orders() = 2; begin(0); orders() = 2; knows(0, 0) = false; go(59); orders() = 2; go(1); orders() = 2");
        Document.sentence(sentence, start, "tell(1, 'd', 0, 0); tell(2, 'a', 0, 0); orders() = 3; begin(1)",
                "orders() = 0; isAlive(0) = true; isLost() = false; go(60); isLost() = true; orders() = 0");
        Document.sentence(sentence, start, "tell(2, 'k', 0, 0); tell(3, 'f', 0, 0); orders() = 0; begin(3)",
                "orders() = 6; go(60); orders() = 6");
        Document.sentence(sentence, TRUNK, BRANCH, TRUNK, "before(1, 2); orders() = 0; begin(1); orders() = 2; go(60)",
                "orders() = 2");
    }

    private static void radio() {
        String sentence = "Of episodes that were played, a cut of so many minutes has all of the trunk, and then those"
                + " of branches, the shorter first, of like ones the lower number first,"
                + " each that fits in what minutes are left then.";
        Document.sentence(sentence, "cut(1) = 0; cut(540) = 0; cut(0) = IAE",
                "cut(541) = IAE;", TRUNK, BRANCH, "cut(60) = 0; begin(0); go(59); cut(540) = 0; go(1); cut(59) = NSEE",
                "cut(60) = 60; cut(61) = 60; begin(1); go(59); cut(540) = 60; go(1); cut(119) = 60; cut(120) = 120",
                "cut(540) = 120; cut(59) = NSEE; cut(1) = NSEE");
        Document.sentence(sentence, "episode('b', 3, 0, false); episode('b', 1, 0, false); episode('b', 2, 0, false)",
                "episode('b', 2, 0, false);", Script.each(0, 3, "begin(#); go(3)"), "cut(1) = 1; cut(2) = 1",
                "cut(3) = 3; cut(4) = 3; cut(5) = 5; cut(6) = 5; cut(7) = 5; cut(8) = 8; cut(9) = 8; cut(540) = 8");
        Document.sentence(sentence, Script.each(0, 8, "episode('b', 59, 0, false)"), "episode('t', 9, 0, false)",
                Script.each(0, 8, "begin(#); go(59)"), "begin(9) = 540; go(9); cut(540) = 540; cut(539) = 481",
                "cut(8) = NSEE; cut(9) = 9; cut(67) = 9; cut(68) = 68");
    }

    private static void dawn() {
        Document.sentence("Dawn is the minute 540.", Script.pass(0, 539), "end() = NSEE; tree(false) = true",
                "end() = NSEE; tree(true) = false; go(1); end() = g");
    }

    private static void told() {
        String sentence = "The night is told as 't' if an episode of the trunk was not played, 'u' if the tree of life"
                + " is not up, which it is at first, 'h' if a figure is in a hand, the first of these, otherwise 'g'"
                + " good.";
        String hands = "person(1, 0, 'l'); person(1, 0, 'l'); figure(0); figure(1); take(0); take(1);";
        Document.sentence(sentence, hands, TRUNK, BRANCH, Script.pass(0, 480), "tree(false) = true; begin(0); go(60)",
                "end() = u; tree(true) = false; end() = h; put(0, true) = 0; end() = h; put(1, true) = 1; end() = g",
                "take(1); end() = h; put(1, false); end() = g; tree(false); end() = u;", TRUNK, "end() = t; tree(true)",
                "end() = t");
        Document.sentence(sentence, TRUNK, Script.pass(0, 481), "begin(0) = UOE; go(59); end() = t");
        Document.sentence(sentence, Script.pass(0, 540), "end() = g; tree(true) = true; end() = g; tree(false) = true",
                "end() = u; tree(false) = false; end() = u");
    }

    /** Every refused call of all scripts is looked at so; here are some that have done much when they find it out. */
    private static void exceptions() {
        Document.sentence("A method that throws an exception changes nothing.", "person(1, 4, 'l'); person(1, 4, 'l')",
                "figure(0); figure(1); take(0); take(1); episode('t', 9, 0, true); offer(3);", Script.pass(0, 532),
                "begin(0) = UOE; offer(1) = 4; episode('t', 8, 0, true); begin(1); offer(1) = 4; speak(0, 9) = ISE",
                "minute() = 532; speak(1, 1); speak(0, 7) = UOE; minute() = 533; go(8) = ISE; minute() = 533",
                "going() = 1");
        Document.sentence("If several exceptions apply, the one that is listed first is thrown.",
                "speak(0, 21) = IOOBE; person(1, 4, 'l'); figure(0); speak(0, 21) = IAE; speak(0, 20) = UOE",
                "tell(0, 'x', 1, 9) = IOOBE; before(1, 0) = IOOBE");
    }
}

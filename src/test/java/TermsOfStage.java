/** Of TermsTest: what is said of persons, figures, hands and stems. */
final class TermsOfStage {
    private TermsOfStage() {
    }

    static void run() {
        firstOfAll();
        persons();
        clowns();
        figures();
        out();
        stems();
    }

    private static void firstOfAll() {
        Document.sentence("No figure is in two hands", "person(1, 0, 'l'); figure(0); take(0) = 0; take(0) = UOE",
                "where(0) = 0; person(1, 0, 'l'); figure(1); take(1) = 1; take(0) = UOE; take(1) = UOE; where(0) = 0",
                "where(1) = 1; put(0, false) = 0; take(1) = UOE; where(1) = 1; isSound() = true");
        Document.sentence("none dead speaks", "person(1, 0, 'l'); person(1, 1, 'l'); figure(0); figure(1); take(0)",
                "take(1); episode('t', 2, 0, false); episode('t', 9, 0, false); tell(0, 'd', 0, 0); begin(0)",
                "speak(0, 1); go(1); isAlive(0) = false; begin(1); go(3); speak(0, 1) = UOE; speak(1, 1)");
        Document.sentence("a mode once left is over", "episode('b', 1, 0, false); piece(0, 4, 0)",
                "episode('b', 1, 1, false); piece(1, 4, 1)", Script.pass(0, 180), "bars(0) = -; nextMode() = 1",
                "bars(0) = m; start(0) = UOE; begin(0) = UOE; bars(1) = -;", Script.pass(180, 360), "nextMode() = 2",
                "bars(0) = m; bars(1) = m; start(0) = UOE; start(1) = UOE; nextMode() = UOE; mode() = 2");
    }

    private static void persons() {
        String sentence = "At most 12 persons are numbered from 0, each of a rank, 0 to 9";
        Document.sentence(sentence, Script.each(0, 9, "person(#, 0, 'l') = #"), "person(9, 5, 'r') = 10",
                "person(0, 5, 'r') = 11; person(0, 5, 'r') = ISE; person(9, 0, 'l') = ISE; isAlive(11) = true");
        Document.sentence(sentence, "person(-1, 0, 'l') = IAE; person(10, 0, 'l') = IAE; isAlive(0) = IOOBE");
        Document.sentence("with a voice, 0 to 5, and a side, 'l' or 'r'", Script.each(0, 5, "person(1, #, 'r') = #"),
                "person(1, 6, 'r') = IAE; person(1, -1, 'l') = IAE; person(1, 0, 'R') = IAE; person(1, 5, 'l') = 6");
        Document.sentence("All live at first, and know none of the facts 0 to 7.",
                Script.each(0, 11, "person(1, 1, 'l'); isAlive(#) = true; knows(#, 0) = false; knows(#, 7) = false"),
                Script.each(0, 7, "knows(0, #) = false; knows(7, #) = false"),
                Script.each(0, 7, "knows(8, #) = false; knows(11, #) = false"),
                "knows(0, 8) = IAE; knows(11, -1) = IAE; knows(12, 0) = IOOBE");
    }

    private static void clowns() {
        String sentence = "those of the rank 0 being clowns";
        String two = "person(0, 0, 'l'); person(1, 1, 'l'); figure(0); figure(1); take(0); take(1); learn(0, 3);"
                + "learn(1, 3); learn(0, 4); learn(1, 4);";
        Document.sentence(sentence, two, "bar(3, true) = false; say(1, 3) = UOE; say(0, 3) = 0");
        Document.sentence(sentence, two, "wish(4) = -1; say(1, 4) = 0; isMet() = false; say(0, 4) = 0; isMet() = true");
        Document.sentence(sentence, two, Script.pass(0, 120), "episode('t', 60, 0, false); begin(0); attention() = 88",
                "speak(1, 1) = 89; speak(0, 1) = 92; speak(1, 1) = 93");
        Document.sentence(sentence, "person(9, 0, 'l'); figure(0); take(0); learn(0, 3); wish(3); say(0, 3) = 0",
                "isMet() = false; bar(3, true); say(0, 3) = UOE");
    }

    private static void figures() {
        Document.sentence("At most 20 figures are numbered from 0, each of a person.", "figure(0) = IOOBE",
                "person(1, 0, 'l'); person(1, 0, 'r')", Script.each(0, 9, "figure(0) = #"),
                Script.each(10, 19, "figure(1) = #"), "figure(0) = ISE; figure(1) = ISE; figure(2) = IOOBE",
                "where(19) = b; where(20) = IOOBE; take(9) = 0; take(0) = UOE; take(19) = 1; take(10) = UOE",
                "put(9, true) = 0; onStem('l', 0) = 9; put(19, true) = 1; onStem('r', 0) = 19");
        Document.sentence("A figure is in the box 'b', on the stem of its person's side 's', or in the hand '0' or '1'",
                "person(1, 0, 'l'); person(1, 0, 'r'); figure(0); figure(1); where(0) = b; take(0) = 0; where(0) = 0",
                "take(1) = 1; where(1) = 1; put(0, true) = 0; where(0) = s; onStem('l', 0) = 0; onStem('r', 0) = NSEE",
                "put(1, true) = 1; where(1) = s; onStem('r', 0) = 1; onStem('l', 1) = NSEE; take(1) = 0; where(1) = 0",
                "onStem('r', 0) = NSEE; onStem('l', 0) = 0; put(1, false) = 0; where(1) = b");
    }

    private static void out() {
        String sentence = "Out are those that are not in the box; of each person at most one figure is out.";
        String three = "person(1, 0, 'l'); person(1, 1, 'l'); figure(0) = 0; figure(0) = 1; figure(1) = 2;";
        Document.sentence(sentence, three, "take(0) = 0; take(1) = UOE; take(2) = 1; put(2, false); take(1) = UOE",
                "put(0, true); take(1) = UOE; where(1) = b; take(0) = 0; take(1) = UOE; put(0, false); take(1) = 0",
                "take(0) = UOE; where(0) = b; isSound() = true");
        Document.sentence(sentence, three, "episode('b', 1, 0, false); tell(0, 'd', 0, 0); take(0); begin(0); go(1)",
                "isAlive(0) = false; where(0) = 0; take(1) = UOE; put(0, true); take(1) = UOE; take(0); put(0, false)",
                "take(1) = 0; put(1, true) = 0; onStem('l', 0) = 1");
        Document.sentence(sentence, three, "learn(0, 2); say(0, 2) = UOE; take(0); say(0, 2) = 0; say(1, 2) = UOE",
                "take(2); say(0, 2) = 1; put(2, true); learn(0, 3); say(0, 3) = 1; put(0, true); learn(0, 4)",
                "say(0, 4) = 1; say(1, 4) = UOE; take(2); put(2, false); learn(0, 5); say(0, 5) = 0");
    }

    private static void stems() {
        String sentence = "A stem has at most 6 figures, those of greater ranks first,"
                + " of like ones that first which was put there first.";
        Document.sentence(sentence, Script.each(0, 5, "person(1, 0, 'l'); figure(#)"),
                Script.each(6, 11, "person(1, 0, 'r'); figure(#)"), Script.each(0, 11, "take(#) = 0; put(#, true) = 0"),
                Script.each(0, 5, "onStem('l', #) = #"), "onStem('r', 0) = 6; onStem('r', 5) = 11",
                "onStem('l', 6) = NSEE; onStem('r', 6) = NSEE; take(3) = 0; onStem('l', 3) = 4; onStem('l', 5) = NSEE",
                "put(3, true) = 0; onStem('l', 5) = 3; isSound() = true");
        Document.sentence(sentence, Script.each(0, 5, "person(#, 0, 'l'); figure(#)"), "person(9, 0, 'l'); figure(6)",
                "person(9, 0, 'r'); figure(7)", Script.each(0, 5, "take(#) = 0; put(#, true) = 0"),
                "take(6) = 0; put(6, true) = UOE; where(6) = 0; onStem('l', 0) = 5; onStem('l', 5) = 0; take(7) = 1",
                "put(7, true) = 1; onStem('r', 0) = 7; take(0) = 1; put(6, true) = 0; onStem('l', 0) = 6",
                "onStem('l', 5) = 1; put(0, true) = UOE; where(0) = 1");
        Document.sentence(sentence, "person(9, 0, 'l'); person(0, 0, 'l'); person(5, 0, 'l'); person(5, 0, 'l')",
                "person(0, 0, 'l'); person(9, 0, 'l')", Script.each(0, 5, "figure(#); take(#) = 0; put(#, true) = 0"),
                "onStem('l', 0) = 0; onStem('l', 1) = 5; onStem('l', 2) = 2; onStem('l', 3) = 3; onStem('l', 4) = 1",
                "onStem('l', 5) = 4; take(0) = 0; take(2) = 1; put(2, true) = 1; put(0, true) = 0; onStem('l', 0) = 5",
                "onStem('l', 1) = 0; onStem('l', 2) = 3; onStem('l', 3) = 2; take(1); take(4); put(4, true) = 1",
                "put(1, true) = 0; onStem('l', 4) = 4; onStem('l', 5) = 1; isSound() = true");
        Document.sentence(sentence, "person(5, 0, 'l'); person(5, 0, 'l'); figure(0) = 0; figure(1) = 1; figure(0) = 2",
                "take(0); put(0, true); take(1); put(1, true); take(0); put(0, false); take(2); put(2, true)",
                "onStem('l', 0) = 1; onStem('l', 1) = 2; onStem('l', 2) = NSEE");
    }
}

/** Of CausesTest: promises 2 to 10. */
final class CausesOfStage {
    private static final String NIGHT = CausesTest.NIGHT;
    private static final String RANGE = CausesTest.RANGE;
    private static final String NO_PERSON = "there is no such person";
    private static final String NO_FIGURE = "there is no such figure";
    private static final String NO_SIDE = "there is no such side";
    private static final String TWELVE = Script.each(0, 11, "person(1, 1, 'l') = #");
    private static final String THREE = Script.each(0, 2, "person(1, 1, 'l'); figure(#) = #");

    private CausesOfStage() {
    }

    static void run() {
        persons();
        facts();
        figures();
        onStem();
        take();
        put();
    }

    private static void persons() {
        CausesTest.range(2, RANGE, "IAE", NIGHT, "person(#, 5, 'r') = 2", 0, 9);
        CausesTest.range(2, RANGE, "IAE", NIGHT, "person(9, #, 'l') = 2", 0, 5);
        CausesTest.letters(2, NO_SIDE, "", "person(0, 0, #)", "lr");
        Document.refusal(2, "there are 12", TWELVE, "person(1, 1, 'l') = ISE; person(0, 0, 'r') = ISE",
                "isAlive(11) = true; isAlive(12) = IOOBE; figure(11) = 0; figure(12) = IOOBE");
        CausesTest.range(4, NO_PERSON, "IOOBE", NIGHT, "isAlive(#) = true", 0, 1);
        CausesTest.range(4, NO_PERSON, "IOOBE", TWELVE, "isAlive(#) = true", 0, 11);
        Document.refusal(4, NO_PERSON, "isAlive(0) = IOOBE");
    }

    private static void facts() {
        CausesTest.range(5, NO_PERSON, "IOOBE", NIGHT, "knows(#, 7) = false", 0, 1);
        CausesTest.range(5, NO_PERSON, "IOOBE", TWELVE, "knows(#, 0) = false", 0, 11);
        CausesTest.range(5, RANGE, "IAE", NIGHT, "knows(1, #) = false", 0, 7);
        Document.refusal(5, NO_PERSON, "knows(0, 0) = IOOBE");
        CausesTest.range(6, NO_PERSON, "IOOBE", NIGHT, "learn(#, 2) = 1", 0, 1);
        CausesTest.range(6, NO_PERSON, "IOOBE", TWELVE, "learn(#, 7) = 1", 0, 11);
        CausesTest.range(6, RANGE, "IAE", NIGHT, "learn(1, #) = 1", 0, 7);
        Document.refusal(6, NO_PERSON, "learn(0, 0) = IOOBE");
    }

    private static void figures() {
        CausesTest.range(3, NO_PERSON, "IOOBE", NIGHT, "figure(#) = 2", 0, 1);
        CausesTest.range(3, NO_PERSON, "IOOBE", TWELVE, "figure(#) = 0", 0, 11);
        Document.refusal(3, NO_PERSON, "figure(0) = IOOBE");
        Document.refusal(3, "there are 20", "person(1, 1, 'l'); person(1, 1, 'l')",
                Script.each(0, 19, "figure(1) = #; where(#) = b"), "figure(0) = ISE; figure(1) = ISE",
                "where(20) = IOOBE");
        CausesTest.range(9, NO_FIGURE, "IOOBE", NIGHT, "where(#)", 0, 1);
        Document.refusal(9, NO_FIGURE, "where(0) = IOOBE; person(1, 1, 'l'); where(0) = IOOBE");
    }

    private static void onStem() {
        CausesTest.letters(10, NO_SIDE, "person(1, 1, 'l'); person(1, 1, 'r'); figure(0); figure(1); take(0); take(1);"
                + "put(0, true); put(1, true)", "onStem(#, 0)", "lr");
        Document.refusal(10, "there is none", "onStem('l', 0) = NSEE; onStem('r', 0) = NSEE; person(1, 1, 'l')",
                "figure(0); onStem('l', 0) = NSEE; take(0); onStem('l', 0) = NSEE; put(0, true); onStem('l', 0) = 0",
                "onStem('r', 0) = NSEE; take(0); onStem('l', 0) = NSEE; put(0, false); onStem('l', 0) = NSEE");
        CausesTest.range(10, "there is none", "NSEE", NIGHT, "onStem('r', #) = 1", 0, 0);
        CausesTest.range(10, "there is none", "NSEE",
                Script.each(0, 5, "person(1, 1, 'l'); figure(#); take(#); put(#, true)"), "onStem('l', #)", 0, 5);
    }

    private static void take() {
        CausesTest.range(7, NO_FIGURE, "IOOBE", THREE, "take(#) = 0", 0, 2);
        Document.refusal(7, NO_FIGURE, "take(0) = IOOBE; person(1, 1, 'l'); take(0) = IOOBE");
        Document.refusal(7, "it is in a hand", THREE,
                "take(0) = 0; take(0) = UOE; where(0) = 0; take(1) = 1; put(0, false) = 0; take(1) = UOE",
                "where(1) = 1");
        Document.refusal(7, "no hand is free", THREE,
                "take(0) = 0; take(1) = 1; take(2) = UOE; where(2) = b; put(0, false) = 0; take(2) = 0");
        Document.refusal(7, "no hand is free", THREE,
                "take(2) = 0; put(2, true); take(0) = 0; take(1) = 1; take(2) = UOE; where(2) = s",
                "onStem('l', 0) = 2; put(1, false) = 1; take(2) = 1; onStem('l', 0) = NSEE");
        Document.refusal(7, "no hand is free", THREE, Script.each(0, 2, "take(#) = 0; put(#, true) = 0"),
                "person(1, 1, 'r'); person(1, 1, 'r'); figure(3); figure(4); take(3); take(4); take(0) = UOE",
                "onStem('l', 0) = 0; onStem('l', 1) = 1; onStem('l', 2) = 2; onStem('l', 3) = NSEE");
        Document.refusal(7, "another figure of its person is out", THREE,
                "figure(1) = 3; take(1) = 0; take(3) = UOE; where(3) = b; put(1, true) = 0; take(3) = UOE",
                "where(1) = s; take(1) = 0; put(1, false) = 0; take(3) = 0; where(3) = 0; take(1) = UOE");
    }

    private static void put() {
        String inHands = "person(1, 1, 'l'); person(1, 1, 'l'); figure(0); figure(1); take(0); take(1);";
        CausesTest.range(8, NO_FIGURE, "IOOBE", inHands, "put(#, true)", 0, 1);
        CausesTest.range(8, NO_FIGURE, "IOOBE", inHands, "put(#, false)", 0, 1);
        Document.refusal(8, NO_FIGURE, "put(0, true) = IOOBE; put(0, false) = IOOBE; person(1, 1, 'l')",
                "put(0, false) = IOOBE; figure(0); take(0); put(1, true) = IOOBE; put(-1, false) = IOOBE",
                "where(0) = 0");
        Document.refusal(8, "it is in no hand", THREE,
                "put(0, true) = UOE; put(0, false) = UOE; where(0) = b; take(0); put(0, true) = 0; put(0, true) = UOE",
                "put(0, false) = UOE; where(0) = s; onStem('l', 0) = 0; onStem('l', 1) = NSEE");
        Document.refusal(8, "it is in no hand", THREE, Script.each(0, 2, "take(#) = 0; put(#, true) = 0"),
                "put(0, true) = UOE; put(0, false) = UOE; onStem('l', 0) = 0; onStem('l', 1) = 1; onStem('l', 2) = 2");
        Document.refusal(8, "the stem has 6", Script.each(0, 6, "person(1, 1, 'l'); figure(#)"),
                Script.each(0, 5, "take(#) = 0; put(#, true) = 0"), "person(9, 1, 'l'); figure(7); take(6) = 0",
                "take(7) = 1; put(6, true) = UOE; put(7, true) = UOE; where(6) = 0; where(7) = 1",
                Script.each(0, 5, "onStem('l', #) = #"), "put(6, false) = 0; take(5) = 0; put(7, true) = 1",
                "onStem('l', 0) = 7; put(5, true) = UOE; put(5, false) = 0; where(5) = b");
    }
}

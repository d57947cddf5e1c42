/** Promises 2 to 10. */
public final class PersonsAndFiguresTest {
    public static void main(String[] args) {
        person();
        figure();
        isAlive();
        knowsAndLearn();
        take();
        put();
        where();
        onStem();
        Document.closePromises(2, 10);
        Script.close("PersonsAndFiguresTest");
    }

    private static void person() {
        Document.promise(2, "Adds a person. Returns its number.",
                "person(0, 0, 'l') = 0; person(9, 5, 'r') = 1",
                "person(-1, 0, 'l') = IAE; person(10, 0, 'l') = IAE",
                "person(0, -1, 'l') = IAE; person(0, 6, 'l') = IAE",
                "person(0, 0, 'm') = IAE; person(0, 0, 'L') = IAE",
                "person(2147483647, -2147483648, 'l') = IAE",
                Script.each(2, 11, "person(4, 2, 'r') = #"),
                "person(4, 2, 'r') = ISE; person(10, 2, 'r') = IAE; person(4, 2, 'x') = IAE",
                "figure(11) = 0; figure(12) = IOOBE");
    }

    private static void figure() {
        Document.promise(3, "Adds a figure, which is in the box. Returns its number.",
                "figure(0) = IOOBE; person(1, 1, 'l') = 0; figure(-1) = IOOBE; figure(1) = IOOBE",
                Script.each(0, 19, "figure(0) = #; where(#) = b"),
                "figure(0) = ISE; figure(1) = IOOBE; take(19) = 0; take(20) = IOOBE");
    }

    private static void isAlive() {
        Document.promise(4, "Tells whether a person lives. Returns true if so.",
                "isAlive(0) = IOOBE; person(1, 1, 'l') = 0; person(2, 1, 'l') = 1; isAlive(0) = true",
                "isAlive(-1) = IOOBE; isAlive(2) = IOOBE",
                "episode('t', 2, 0, false); tell(0, 'd', 1, 0); tell(0, 'f', 1, 6); begin(0); go(1)",
                "isAlive(1) = true; go(1); isAlive(1) = false; isAlive(0) = true",
                "knows(1, 6) = true; learn(1, 5) = 2; isAlive(1) = false");
    }

    private static void knowsAndLearn() {
        Document.promise(5, "Tells whether a person knows a fact. Returns true if so.",
                "knows(0, 8) = IOOBE; person(1, 1, 'l') = 0; person(1, 1, 'l') = 1; knows(0, 0) = false",
                "knows(0, 8) = IAE; knows(0, -1) = IAE; knows(2, 0) = IOOBE; knows(-1, 9) = IOOBE",
                "learn(1, 7) = 1; knows(1, 7) = true; knows(1, 6) = false; knows(0, 7) = false");
        Document.promise(6, "Lets a person know a fact. Returns how many facts it knows.",
                "learn(0, 8) = IOOBE", Script.each(0, 11, "person(1, 1, 'l') = #"),
                "learn(0, 8) = IAE; learn(0, -1) = IAE; learn(12, 0) = IOOBE; learn(-1, 0) = IOOBE",
                "learn(0, 3) = 1; learn(0, 3) = 1; learn(0, 0) = 2; learn(0, 7) = 3",
                "learn(7, 7) = 1; learn(8, 0) = 1; learn(11, 7) = 1; learn(11, 0) = 2",
                "knows(7, 7) = true; knows(7, 0) = false; knows(8, 0) = true; knows(8, 7) = false",
                "knows(3, 7) = false; knows(0, 0) = true; knows(11, 7) = true; knows(10, 7) = false",
                Script.each(0, 7, "learn(5, #)"), "learn(5, 5) = 8; learn(4, 0) = 1; learn(6, 7) = 1");
    }

    private static void take() {
        Document.promise(7, "Takes a figure into a hand, the lower one that is free. Returns the hand.",
                "take(0) = IOOBE", Script.each(0, 2, "person(1, #, 'l'); figure(#) = #"), "figure(0) = 3",
                "take(-1) = IOOBE; take(4) = IOOBE",
                "take(1) = 0; take(1) = UOE; take(0) = 1; take(2) = UOE; where(2) = b",
                "put(1, false) = 0; take(3) = UOE; take(2) = 0; put(0, true) = 1; take(3) = UOE",
                "take(0) = 1; onStem('l', 0) = NSEE; put(0, false) = 1; take(3) = 1; take(0) = UOE",
                "where(3) = 1; where(0) = b; where(2) = 0");
        Script.run("7 take, the dead and a figure of the stem",
                "person(1, 0, 'r'); figure(0); episode('t', 1, 0, false); tell(0, 'd', 0, 0); begin(0); go(1)",
                "isAlive(0) = false; take(0) = 0; put(0, true) = 0; take(0) = 0; take(0) = UOE");
    }

    private static void put() {
        Document.promise(8, "Puts a figure away that is in a hand. Returns the hand that is free.",
                "put(0, true) = IOOBE; person(1, 1, 'l'); figure(0); put(1, true) = IOOBE",
                "put(-1, false) = IOOBE; put(0, true) = UOE; put(0, false) = UOE",
                "take(0) = 0; put(0, true) = 0; where(0) = s; put(0, true) = UOE; put(0, false) = UOE",
                "take(0) = 0; put(0, false) = 0; where(0) = b; onStem('l', 0) = NSEE",
                "person(1, 1, 'r'); figure(1); take(0) = 0; take(1) = 1; put(1, false) = 1; where(0) = 0");
        Script.run("8 put, a full stem",
                Script.each(0, 7, "person(1, 1, 'l'); figure(#)"), "person(1, 1, 'r'); figure(8) = 8",
                Script.each(0, 5, "take(#) = 0; put(#, true) = 0"),
                "take(6) = 0; put(6, true) = UOE; where(6) = 0; take(8) = 1; put(8, true) = 1",
                "onStem('l', 6) = NSEE; onStem('r', 0) = 8; take(3) = 1; put(6, true) = 0",
                "put(3, true) = UOE; put(3, false) = 1; onStem('l', 5) = 6; onStem('l', 3) = 4");
    }

    private static void where() {
        Document.promise(9, "Returns where a figure is. Returns 'b', 's', '0' or '1'.",
                "where(0) = IOOBE; person(1, 1, 'l'); person(1, 1, 'r'); figure(0); figure(1)",
                "where(-1) = IOOBE; where(2) = IOOBE; where(0) = b; take(0); where(0) = 0",
                "take(1); where(1) = 1; where(0) = 0; put(0, true); where(0) = s; put(1, false); where(1) = b");
    }

    private static void onStem() {
        Document.promise(10, "Returns a figure on a stem. Returns its number.",
                "onStem('l', 0) = NSEE; onStem('s', 0) = IAE; onStem('s', -1) = IAE",
                "person(3, 0, 'l'); person(5, 0, 'l'); person(3, 0, 'l'); person(0, 0, 'l'); person(5, 0, 'l')",
                "person(9, 0, 'r')", Script.each(0, 5, "figure(#); take(#) = 0; put(#, true) = 0"),
                "onStem('l', 0) = 1; onStem('l', 1) = 4; onStem('l', 2) = 0; onStem('l', 3) = 2",
                "onStem('l', 4) = 3; onStem('l', 5) = NSEE; onStem('l', -1) = NSEE",
                "onStem('r', 0) = 5; onStem('r', 1) = NSEE; onStem('l', 2147483647) = NSEE",
                "take(1) = 0; onStem('l', 0) = 4; put(1, true); onStem('l', 0) = 4; onStem('l', 1) = 1",
                "take(0) = 0; put(0, true); onStem('l', 2) = 2; onStem('l', 3) = 0; isSound() = true");
    }
}

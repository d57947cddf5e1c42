/** Promises 34 to 43. */
public final class MusicAndPublicTest {
    public static void main(String[] args) {
        piece();
        start();
        knock();
        knockReadLate();
        playing();
        asked();
        stroke();
        crowdAndAsleep();
        attention();
        rain();
        Document.closePromises(34, 43);
        Script.close("MusicAndPublicTest");
    }

    private static void piece() {
        Document.promise(34, "Tells a piece, anew if it was told. Returns its cycle before, 0 without one.",
                "piece(-1, 4, 0) = IAE; piece(8, 4, 0) = IAE; piece(0, 3, 0) = IAE",
                "piece(0, 65, 0) = IAE; piece(0, 4, -1) = IAE; piece(0, 4, 3) = IAE",
                "piece(0, 4, 0) = 0; piece(0, 64, 2) = 4; piece(0, 8, 0) = 64; piece(7, 5, 0) = 0",
                "piece(3, 20, 0) = 0; start(0) = 8; piece(0, 8, 0) = UOE; piece(0, 3, 0) = IAE",
                "piece(7, 6, 1) = 5; piece(7, 5, 0) = 6; knock(7) = 0; piece(7, 6, 0) = UOE",
                "piece(3, 30, 1) = 20; go(1); playing() = 7; piece(7, 9, 0) = UOE; piece(0, 9, 0) = 8");
        Script.run("34 piece, behind the music",
                "piece(0, 9, 0); start(0); go(120); go(60); nextMode(); piece(0, 7, 1) = 9; start(0) = 7");
    }

    private static void start() {
        Document.promise(35, "Starts a piece. Returns the beats up to its first great stroke.",
                "start(-1) = IAE; start(8) = IAE; start(0) = UOE; piece(0, 4, 1); start(0) = UOE",
                "piece(1, 7, 0); start(1) = 7; start(1) = UOE; start(8) = IAE; piece(2, 9, 0)",
                "start(2) = UOE; playing() = 1; stroke() = 7; go(1); stroke() = 4");
        Script.run("35 start, in the mode",
                "piece(0, 4, 1); piece(1, 64, 0); start(1) = 64; go(120); go(60); start(0) = UOE",
                "nextMode(); start(1) = UOE; start(0) = 4; playing() = 0");
    }

    private static void knock() {
        Document.promise(36, "Asks for a piece. Returns in how many beats it is read.",
                "knock(-1) = IAE; knock(8) = IAE; piece(0, 16, 0); piece(1, 8, 0); piece(2, 8, 1)",
                "knock(0) = UOE; start(0); knock(3) = UOE; knock(2) = UOE; knock(8) = IAE",
                "asked() = NSEE; knock(1) = 0; knock(0) = UOE; asked() = 1; go(1); playing() = 0; stroke() = 6",
                "knock(0) = UOE; go(1); playing() = 1; stroke() = 4; asked() = NSEE; knock(0) = 0; go(1)",
                "playing() = 0; stroke() = 10");
        Script.run("36 knock, the same piece", "piece(0, 16, 0); start(0); go(1); knock(0) = 0; asked() = 0; go(1)",
                "playing() = 0; asked() = NSEE; stroke() = 12");
        Script.run("36 knock, at a great stroke", "piece(0, 10, 0); piece(1, 20, 0); start(0); go(1); stroke() = 10",
                "knock(1) = 0; playing() = 0; asked() = 1; go(1); playing() = 1; stroke() = 20");
    }

    private static void knockReadLate() {
        Script.run("36 knock, read late", "piece(0, 4, 0); piece(1, 64, 0); piece(2, 11, 0)",
                "go(119); start(0) = 4; knock(1) = 0; go(1); playing() = 1; stroke() = 58; knock(2) = 2",
                "asked() = 2; knock(0) = 2; asked() = 0; go(1); knock(2) = UOE; asked() = 0; go(4); asked() = 0",
                "go(1); playing() = 0; stroke() = 2; knock(1) = 2; go(1); playing() = 1; stroke() = 56");
        Script.run("36 knock, a stroke ahead of the reading", "piece(0, 7, 0); piece(1, 64, 0)",
                "go(120); go(120); go(120); start(0); go(2); stroke() = 1; knock(1) = 6; go(1) = 363; playing() = 1;",
                "stroke() = 62");
        Script.run("36 knock, a stroke at the reading", "piece(0, 7, 0); piece(1, 64, 0)",
                "go(120); go(120); start(0) = 7; go(1); stroke() = 4; knock(1) = 4; go(1); playing() = 1",
                "stroke() = 58");
        Script.run("36 knock, a stroke just ahead of the reading", "piece(0, 13, 0); piece(1, 64, 0)",
                "go(120); go(120); start(0) = 13; go(1); stroke() = 3; knock(1) = 4; go(1); playing() = 0",
                "asked() = 1; stroke() = 6; go(1); playing() = 1; stroke() = 60");
        Script.run("36 knock, the latest delays", "piece(0, 64, 0); go(120); go(119); start(0)",
                "knock(0) = 2; go(1); go(120); knock(0) = 6; go(119) = 479; knock(0) = 6; go(61) = 540",
                "knock(0) = 8; knock(0) = 8");
    }

    private static void playing() {
        Document.promise(37, "Returns which piece is played. Returns its number.",
                "playing() = NSEE; piece(5, 4, 0); playing() = NSEE; start(5)",
                "playing() = 5; go(120); playing() = 5; go(60); nextMode(); playing() = NSEE");
    }

    private static void asked() {
        Document.promise(38, "Returns for which piece was asked. Returns its number.",
                "asked() = NSEE; piece(5, 20, 0); start(5); asked() = NSEE",
                "knock(5); asked() = 5; go(1); asked() = 5; go(1); asked() = NSEE");
    }

    private static void stroke() {
        Document.promise(39, "Returns in how many beats the next great stroke comes. Returns their number.",
                "stroke() = NSEE; piece(0, 15, 0); stroke() = NSEE; start(0) = 15",
                "stroke() = 15; go(1); stroke() = 5; go(1); stroke() = 10; go(1); stroke() = 15; go(120)",
                "stroke() = 15; go(1); stroke() = 5");
    }

    private static void crowdAndAsleep() {
        Document.promise(40, "Sets how many watch. Returns the number before.",
                "crowd(-1) = IAE; crowd(501) = IAE; crowd(500) = 0; crowd(0) = 500",
                "crowd(7) = 0; crowd(900) = IAE; crowd(8) = 7");
        Document.promise(42, "Returns how many are asleep. Returns those who watch times 100 less the attention,"
                + " divided by 100, cut.",
                "asleep() = 0; crowd(500); asleep() = 0; go(10); asleep() = 5; crowd(99); asleep() = 0",
                "crowd(199); asleep() = 1; rain(true); go(120); go(120); asleep() = 97; go(120); go(120); go(40)",
                "attention() = 0; asleep() = 199; crowd(0); asleep() = 0");
    }

    private static void attention() {
        Document.promise(41, "Returns the attention. Returns the number.",
                "attention() = 100; go(9); attention() = 100; go(1); attention() = 99; go(10)",
                "attention() = 98; rain(true); go(10); attention() = 96; episode('t', 5, 0, false); begin(0); go(4)",
                "attention() = 96; go(1); attention() = 100; go(5); attention() = 98");
        Script.run("41 attention, first it falls, then an episode ends",
                "episode('t', 10, 0, false); begin(0); go(10); attention() = 100");
        Script.run("41 attention, never below 0", "rain(true); go(120); go(120); go(120); go(120); attention() = 4",
                "go(10); attention() = 2; go(10); attention() = 0; episode('b', 10, 0, false); begin(0); go(10)",
                "attention() = 5");
        Script.run("41 attention, from 1 on", "go(10); rain(true); go(120); go(120); go(120); go(120); attention() = 3",
                "go(10); attention() = 1; go(10); attention() = 0; go(1); attention() = 0");
    }

    private static void rain() {
        Document.promise(43, "Tells whether it rains. Returns whether it did.",
                "rain(false) = false; rain(true) = false; rain(true) = true; go(10); attention() = 98",
                "rain(false) = true; go(10); attention() = 97");
    }
}

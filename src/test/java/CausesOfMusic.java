/** Of CausesTest: promises 34 to 46. */
final class CausesOfMusic {
    private static final String RANGE = CausesTest.RANGE;
    /** Two pieces of the mode 0, and one of the mode 1. */
    private static final String PIECES = "piece(0, 16, 0) = 0; piece(7, 20, 0) = 0; piece(3, 9, 1) = 0;";
    private static final String ALL = Script.each(0, 7, "piece(#, 64, 0) = 0");

    private CausesOfMusic() {
    }

    static void run() {
        piece();
        start();
        knock();
        silence();
        crowdAndSums();
    }

    private static void piece() {
        CausesTest.range(34, RANGE, "IAE", ALL, "piece(#, 4, 0) = 64", 0, 7);
        CausesTest.range(34, RANGE, "IAE", PIECES, "piece(7, #, 0) = 20", 4, 64);
        CausesTest.range(34, RANGE, "IAE", PIECES, "piece(7, 64, #) = 20", 0, 2);
        String cause = "it is played or asked for";
        Document.refusal(34, cause, PIECES, "start(0); piece(0, 16, 0) = UOE; piece(0, 4, 2) = UOE",
                "piece(7, 21, 0) = 20; knock(7); piece(7, 22, 0) = UOE; piece(0, 8, 0) = UOE; piece(3, 10, 1) = 9",
                "go(2); playing() = 7; piece(7, 22, 0) = UOE; piece(0, 8, 1) = 16; piece(0, 8, 0) = 8");
        Document.refusal(34, cause, PIECES, "go(120); start(0); knock(7); piece(7, 4, 0) = UOE; knock(0)",
                "piece(7, 4, 0) = 20; knock(7); go(1); piece(7, 5, 0) = UOE; stroke() = 6");
    }

    private static void start() {
        CausesTest.range(35, RANGE, "IAE", ALL, "start(#) = 64", 0, 7);
        Document.refusal(35, "it was not told", "start(0) = UOE; start(7) = UOE; piece(1, 9, 0); start(0) = UOE",
                "start(1) = 9; playing() = 1");
        Document.refusal(35, "has another mode than the night", PIECES, "start(3) = UOE; playing() = NSEE",
                Script.pass(0, 180), "start(3) = UOE; nextMode() = 1; start(0) = UOE; start(3) = 9");
        Document.refusal(35, "has another mode than the night", PIECES, "piece(3, 9, 2) = 9", Script.pass(0, 360),
                "start(3) = UOE; nextMode() = 1; start(3) = UOE; nextMode() = 2; start(0) = UOE; start(3) = 9");
        Document.refusal(35, "one is played", PIECES, "start(0) = 16; start(7) = UOE; start(0) = UOE; go(1)",
                "stroke() = 6; start(7) = UOE; playing() = 0; stroke() = 6; asked() = NSEE");
    }

    private static void knock() {
        CausesTest.range(36, RANGE, "IAE", ALL + "start(5)", "knock(#) = 0", 0, 7);
        Document.refusal(36, "it was not told", PIECES, "start(0); knock(1) = UOE; knock(6) = UOE; asked() = NSEE",
                "piece(6, 4, 0); knock(6) = 0; asked() = 6");
        Document.refusal(36, "has another mode than the night", PIECES, "start(0); knock(3) = UOE; asked() = NSEE",
                Script.pass(0, 180), "nextMode() = 1; start(3); knock(0) = UOE; knock(3) = 2; asked() = 3");
        Document.refusal(36, "none is played", PIECES, "knock(0) = UOE; knock(7) = UOE; start(0); knock(7) = 0");
        Document.refusal(36, "one is asked for that was read", PIECES,
                "start(0); knock(7) = 0; knock(0) = UOE; knock(7) = UOE; asked() = 7; go(1); knock(0) = UOE",
                "asked() = 7; stroke() = 6; go(1); playing() = 7; asked() = NSEE; knock(0) = 0");
        Document.refusal(36, "one is asked for that was read", ALL, "go(120); start(0) = 64; knock(7) = 2",
                "knock(6) = 2; asked() = 6; go(1); knock(7) = UOE; asked() = 6; go(5); knock(5) = UOE; go(1)",
                "playing() = 6; stroke() = 58; knock(5) = 2; knock(4) = 2");
    }

    private static void silence() {
        Document.refusal(37, "none is", "playing() = NSEE", PIECES, "playing() = NSEE; start(0); playing() = 0",
                Script.pass(0, 180), "playing() = 0; nextMode(); playing() = NSEE");
        Document.refusal(38, "for none", "asked() = NSEE", PIECES, "start(0); asked() = NSEE; knock(0); asked() = 0",
                "go(1); asked() = 0; go(1); asked() = NSEE");
        Document.refusal(39, "none is played", "stroke() = NSEE", PIECES, "stroke() = NSEE; start(0); stroke() = 16",
                Script.pass(0, 180), "stroke() = 8; nextMode(); stroke() = NSEE");
    }

    private static void crowdAndSums() {
        CausesTest.range(40, RANGE, "IAE", CausesTest.NIGHT, "crowd(#) = 50", 0, 500);
        Document.refusal(45, "there are none", "playedShare() = NSEE; person(1, 1, 'l'); playedShare() = NSEE",
                "episode('b', 1, 0, false); begin(0); go(1); playedShare() = 1.0");
        Document.refusal(46, "there are none", "meanLength() = NSEE; episode('t', 1, 0, false); meanLength() = NSEE",
                "begin(0); meanLength() = NSEE; go(1); meanLength() = 1.0");
    }
}

/** Of TermsTest: what is said of pieces, great strokes and knocks. */
final class TermsOfMusic {
    private static final String KNOCK = "A knock asks for another piece, or the same one";
    private static final String READ = "it is read 2 beats later for each 120 minutes that the night has had,"
            + " whole ones";
    private static final String STROKE = "as the first great stroke comes that is later than the knock, and not ahead"
            + " of the reading, the other piece begins, and the knock is over";

    private TermsOfMusic() {
    }

    static void run() {
        pieces();
        strokes();
        knocks();
        delays();
        readAtOnce();
        readAtTheStroke();
        anotherKnock();
        modeGoesOn();
    }

    private static void pieces() {
        String sentence = "Pieces 0 to 7 have a cycle, 4 to 64 beats, and a mode.";
        Document.sentence(sentence, Script.each(0, 7, "piece(#, 4, 0) = 0; piece(#, 64, 2) = 4; piece(#, 9, 1) = 64"),
                "piece(8, 4, 0) = IAE; piece(-1, 4, 0) = IAE; piece(0, 3, 0) = IAE; piece(0, 65, 0) = IAE",
                "piece(0, 4, 3) = IAE; piece(0, 4, -1) = IAE; piece(0, 4, 0) = 9; piece(7, 4, 0) = 9");
        Document.sentence(sentence, "piece(0, 5, 0); piece(1, 6, 1); piece(2, 7, 2); start(1) = UOE; start(2) = UOE",
                "start(3) = UOE; start(0) = 5; knock(1) = UOE; knock(2) = UOE; knock(3) = UOE;", Script.pass(0, 360),
                "nextMode(); start(0) = UOE; start(2) = UOE; start(1) = 6; nextMode(); start(1) = UOE; start(2) = 7");
    }

    private static void strokes() {
        String sentence = "A piece that is started begins at once; its great strokes are each cycle's length behind"
                + " that, again and again.";
        Document.sentence(sentence, "piece(0, 4, 0); go(7); start(0) = 4; playing() = 0; stroke() = 4; go(1)",
                "stroke() = 2; go(1); stroke() = 4; go(1); stroke() = 2; go(120); stroke() = 2");
        Document.sentence(sentence, "piece(7, 64, 0); start(7) = 64; playing() = 7; stroke() = 64; go(6); stroke() = 4",
                "go(1); stroke() = 58; go(25); stroke() = 64; go(120); stroke() = 16");
        Document.sentence(sentence, "piece(3, 10, 0); start(3) = 10; go(1); stroke() = 10; go(3); stroke() = 10");
        Document.sentence(sentence, "piece(3, 9, 0); start(3) = 9; go(1); stroke() = 8; go(8); stroke() = 9");
    }

    private static void knocks() {
        Document.sentence(KNOCK, "piece(0, 20, 0); piece(1, 30, 0); start(0); knock(1) = 0; asked() = 1; go(1)",
                "playing() = 0; asked() = 1; stroke() = 10; go(1); playing() = 1; asked() = NSEE; stroke() = 30; go(3)",
                "playing() = 1; stroke() = 30");
        Document.sentence(KNOCK, "piece(0, 20, 0); start(0); go(1); knock(0) = 0; asked() = 0; go(1); asked() = NSEE",
                "playing() = 0; stroke() = 20");
    }

    private static void delays() {
        String all = "piece(0, 64, 0); piece(1, 64, 0);";
        Document.sentence(READ, all, "start(0); knock(1) = 0");
        Document.sentence(READ, all, Script.pass(0, 119), "start(0); knock(1) = 0");
        Document.sentence(READ, all, Script.pass(0, 120), "start(0); knock(1) = 2");
        Document.sentence(READ, all, Script.pass(0, 239), "start(0); knock(1) = 2");
        Document.sentence(READ, all, Script.pass(0, 240), "start(0); knock(1) = 4");
        Document.sentence(READ, all, Script.pass(0, 359), "start(0); knock(1) = 4");
        Document.sentence(READ, all, Script.pass(0, 360), "start(0); knock(1) = 6");
        Document.sentence(READ, all, Script.pass(0, 479), "start(0); knock(1) = 6");
        Document.sentence(READ, all, Script.pass(0, 480), "start(0); knock(1) = 8");
        Document.sentence(READ, all, Script.pass(0, 540), "start(0); knock(1) = 8; knock(0) = 8; asked() = 0");
    }

    private static void readAtOnce() {
        Document.sentence(STROKE, "piece(0, 10, 0); piece(1, 64, 0); start(0); go(1); stroke() = 10; knock(1) = 0",
                "playing() = 0; asked() = 1; go(1); playing() = 1; asked() = NSEE; stroke() = 64");
        Document.sentence(STROKE, "piece(0, 11, 0); piece(1, 64, 0); start(0); go(1); stroke() = 1; knock(1) = 0",
                "playing() = 0; go(1); playing() = 1; stroke() = 55; asked() = NSEE");
        Document.sentence(STROKE, "piece(0, 4, 0); piece(1, 4, 0); start(0); knock(1) = 0; go(1); playing() = 1",
                "stroke() = 2; knock(0) = 0; go(1); playing() = 0; stroke() = 4; asked() = NSEE");
    }

    /**
     * A piece that was started a minute earlier has its great stroke so many beats behind the knock: one beat ahead
     * of the reading, at the reading, one beat behind it.
     */
    private static void readAtTheStroke() {
        for (int delay = 2; delay <= 8; delay += 2) {
            int knock = 60 * delay;
            for (int stroke = delay - 1; stroke <= delay + 1; stroke++) {
                int cycle = 10 + stroke;
                String ahead = "piece(0, " + cycle + ", 0); piece(1, 64, 0);" + Script.pass(0, knock - 1)
                        + "start(0); go(1); stroke() = " + stroke + "; knock(1) = " + delay + "; go(1);";
                String begun = "playing() = 1; asked() = NSEE; stroke() = " + (64 - 10 + stroke);
                String waits = "playing() = 0; asked() = 1; stroke() = " + (stroke + cycle - 10) + "; go(2);"
                        + "playing() = 1; asked() = NSEE; stroke() = " + (64 - 30 + stroke + cycle);
                Document.sentence(STROKE, ahead, stroke < delay ? waits : begun);
            }
        }
    }

    private static void anotherKnock() {
        String three = "piece(0, 12, 0); piece(1, 64, 0); piece(2, 32, 0);";
        String notRead = "A knock while one is asked for that was not read yet takes its place";
        Document.sentence(notRead, three, Script.pass(0, 120), "start(0); knock(1) = 2; asked() = 1; knock(2) = 2",
                "asked() = 2; knock(0) = 2; knock(2) = 2; go(1); asked() = 2; knock(1) = UOE; go(1); playing() = 2",
                "stroke() = 24; asked() = NSEE; knock(1) = 2; asked() = 1");
        Document.sentence(notRead, three, Script.pass(0, 480), "start(0); knock(1) = 8; knock(2) = 8; go(1)",
                "asked() = 2; knock(1) = UOE; knock(2) = UOE; asked() = 2");
        String atOnce = "one that is read 0 beats later was read at once.";
        Document.sentence(atOnce, three, "start(0); knock(1) = 0; knock(2) = UOE; knock(1) = UOE; asked() = 1; go(1)",
                "knock(2) = UOE; asked() = 1; go(1); playing() = 1; asked() = NSEE; knock(2) = 0");
        Document.sentence(atOnce, three, Script.pass(0, 119), "start(0); knock(1) = 0; knock(2) = UOE; go(1)",
                "asked() = 1; knock(2) = UOE; go(1); playing() = 1; stroke() = 56; knock(2) = 2; knock(0) = 2",
                "asked() = 0");
    }

    private static void modeGoesOn() {
        String sentence = "As the mode goes on, the piece ends, and a knock is gone.";
        String both = "piece(0, 64, 0); piece(1, 9, 1); piece(2, 9, 2);";
        Document.sentence(sentence, both, Script.pass(0, 180), "start(0); knock(0) = 2; nextMode() = 1",
                "playing() = NSEE; asked() = NSEE; stroke() = NSEE; piece(0, 30, 1) = 64; start(1) = 9; go(1)",
                "playing() = 1; stroke() = 8; knock(0) = 2; asked() = 0;", Script.pass(181, 360), "knock(1) = 6",
                "nextMode() = 2; asked() = NSEE; playing() = NSEE; start(2) = 9; knock(2) = 6");
        Document.sentence(sentence, both, Script.pass(0, 179), "start(0); knock(0) = 2; go(1); asked() = 0",
                "nextMode() = 1; asked() = NSEE; start(1) = 9; knock(1) = 2; knock(1) = 2");
        Document.sentence(sentence, both, Script.pass(0, 180), "start(0); knock(0) = 2; nextMode() = 1;",
                Script.pass(180, 360), "start(1) = 9; knock(1) = 6; knock(1) = 6; go(1); knock(1) = 6; nextMode() = 2",
                "start(2) = 9; go(1); stroke() = 8; asked() = NSEE; playing() = 2");
        Document.sentence(sentence, Script.pass(0, 180), "nextMode() = 1; playing() = NSEE; asked() = NSEE");
    }
}

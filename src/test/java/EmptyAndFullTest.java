/** The emptiest night, of which each call is asked, and the fullest one, which has as many of all as there can be. */
public final class EmptyAndFullTest {
    public static void main(String[] args) {
        emptyStage();
        emptyEpic();
        emptyNight();
        emptyMusic();
        fullStage();
        fullEpic();
        Script.close("EmptyAndFullTest");
    }

    private static void emptyStage() {
        Script.run("no persons and figures", "figure(0) = IOOBE; isAlive(0) = IOOBE; knows(0, 0) = IOOBE",
                "learn(0, 0) = IOOBE; take(0) = IOOBE; put(0, true) = IOOBE; where(0) = IOOBE; onStem('l', 0) = NSEE",
                "speak(0, 1) = IOOBE; say(0, 0) = IOOBE; tell(0, 'a', 0, 0) = IOOBE; isSound() = true",
                "person(0, 0, 'l') = 0; where(0) = IOOBE; take(0) = IOOBE; figure(0) = 0; where(0) = b");
    }

    private static void emptyEpic() {
        Script.run("no episodes", "before(0, 1) = IOOBE; before(0, 0) = IOOBE; bars(0) = IOOBE; begin(0) = IOOBE",
                "going() = NSEE; isPlayed(0) = IOOBE; left() = 0; isLost() = false; orders() = 1; cut(1) = 0",
                "cut(540) = 0; playedShare() = NSEE; meanLength() = NSEE; isSound() = true",
                "episode('b', 1, 0, false) = 0; left() = 0; orders() = 1; cut(1) = 0; playedShare() = 0.0",
                "meanLength() = NSEE");
    }

    private static void emptyNight() {
        Script.run("no minutes, wish, barred facts and offerings", "minute() = 0; mode() = 0; nextMode() = UOE",
                "isMet() = NSEE; end() = NSEE; attention() = 100; asleep() = 0; checksum() = 217; isSound() = true");
        Script.run("first calls", Script.each(0, 7, "bar(#, false) = false"), "wish(0) = -1; isMet() = false",
                "offer(1) = 1; tree(true) = true; rain(false) = false; crowd(0) = 0; go(1) = 1; minute() = 1");
    }

    private static void emptyMusic() {
        Script.run("no pieces and knock", Script.each(0, 7, "start(#) = UOE; knock(#) = UOE"), "playing() = NSEE",
                "asked() = NSEE; stroke() = NSEE", Script.each(0, 7, "piece(#, 4, 0) = 0"), "playing() = NSEE",
                "asked() = NSEE; stroke() = NSEE; go(120); playing() = NSEE; knock(0) = UOE; start(0) = 4");
    }

    private static void fullStage() {
        long sum = 7;
        for (int i = 0; i < 12; i++) {
            sum = 31 * sum + 256 + 255;
        }
        for (int i = 0; i < 20; i++) {
            char place = i < 10 ? 's' : i < 12 ? (char) ('0' + i - 10) : 'b';
            sum = 31 * sum + place;
        }
        Script.run("the fullest stage", Script.each(0, 5, "person(#, #, 'l')"), Script.each(0, 5, "person(#, #, 'r')"),
                Script.each(0, 11, "figure(#) = #"), Script.each(0, 7, "figure(#)"),
                Script.each(0, 9, "take(#) = 0; put(#, true) = 0"), "take(10) = 0; take(11) = 1",
                Script.each(0, 7, "learn(0, #); say(0, #) = 11; say(0, #) = 0"), "person(0, 0, 'l') = ISE",
                "figure(0) = ISE; take(12) = UOE; take(5) = UOE; onStem('l', 0) = 5; onStem('l', 5) = 0",
                "onStem('l', 6) = NSEE; onStem('r', 0) = 9; onStem('r', 3) = 6; onStem('r', 4) = NSEE",
                "learn(11, 7) = 8; checksum() = " + 31 * sum, "isSound() = true; put(11, true); put(10, true)",
                "onStem('r', 0) = 11; onStem('r', 1) = 10; onStem('r', 5) = 6; onStem('r', 6) = NSEE",
                "isSound() = true");
    }

    /** Twenty episodes that fill the night to its last minute, three modes in a row. */
    private static void fullEpic() {
        String ofMode = "episode('t', 30, #, true); episode('b', 20, #, false); episode('b', 10, #, false);"
                + "episode('t', 60, #, false); episode('b', 30, #, true); episode('b', 30, #, false);";
        String told = "person(1, 0, 'l'); person(0, 0, 'l'); figure(1); take(0); crowd(500);"
                + ofMode.replace("#", "0") + ofMode.replace("#", "1") + "episode('t', 60, 2, true);"
                + "episode('b', 20, 2, false); episode('b', 1, 2, false); episode('b', 1, 2, false);"
                + "episode('b', 1, 2, false); episode('b', 1, 2, false); episode('t', 60, 2, false);"
                + "episode('b', 36, 2, false);" + Script.each(0, 7, "piece(#, 64, 0)") + "offer(9);";
        StringBuilder pairs = new StringBuilder();
        for (int second = 1; second < 20; second++) {
            pairs.append("before(").append(second - 1).append(", ").append(second).append(");");
        }
        for (int second = 2; second < 20; second++) {
            pairs.append("before(").append(second - 2).append(", ").append(second).append(");");
        }
        pairs.append("before(0, 3) = 38; before(0, 18) = 39; before(0, 19) = 40; before(0, 17) = ISE;");
        String lines = Script.each(0, 19, "tell(#, 'f', 0, 7)") + Script.each(0, 19, "tell(#, 'a', 1, 0)")
                + Script.each(1, 19, "tell(#, 'k', 0, 7)") + "tell(19, 'd', 0, 0) = 60; tell(19, 'f', 0, 0) = ISE;";
        Script.run("the fullest night", told, pairs.toString(), lines, "episode('t', 1, 0, false) = ISE",
                "offer(1) = ISE; left() = 6; orders() = 0",
                "isLost() = false", playAll(0, 5, 30, 20, 10, 60, 30, 30), "minute() = 180; offer(2) = 9",
                "nextMode() = 1; isLost() = false", playAll(6, 11, 30, 20, 10, 60, 30, 30),
                "minute() = 360; left() = 2; offer(2) = 9; nextMode() = 2; isLost() = false; orders() = 0",
                playAll(12, 17, 60, 20, 1, 1, 1, 1), "left() = 1; orders() = 1; end() = NSEE; begin(18) = 504",
                "orders() = 1; go(36); go(24); left() = 0; orders() = 1; begin(19) = 540; go(36); end() = h",
                "put(0, false); end() = g; isAlive(0) = false; playedShare() = 1.0; meanLength() = 27.0",
                "cut(540) = 540; cut(299) = NSEE; cut(300) = 300; cut(301) = 301; cut(304) = 304; cut(313) = 304",
                "cut(314) = 314; isLost() = false; isSound() = true; go(1) = ISE; attention() = 100; asleep() = 0");
    }

    /** Begins the episodes one behind the other, of so many minutes each. */
    private static String playAll(int first, int last, int... minutes) {
        StringBuilder all = new StringBuilder();
        for (int i = first; i <= last; i++) {
            all.append("bars(").append(i).append(") = -; begin(").append(i).append("); go(");
            all.append(minutes[i - first]).append(");");
        }
        return all.toString();
    }
}

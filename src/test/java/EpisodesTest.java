/** Promises 11 to 21. */
public final class EpisodesTest {
    public static void main(String[] args) {
        episode();
        before();
        beforeAtItsLimit();
        tell();
        tellAgainstTheTrunk();
        tellAtItsLimit();
        bars();
        begin();
        going();
        isPlayed();
        left();
        isLost();
        orders();
        ordersBehindWhatGoesOn();
        cut();
        Document.closePromises(11, 21);
        Script.close("EpisodesTest");
    }

    private static void episode() {
        Document.promise(11, "Adds an episode. Returns its number.",
                "episode('t', 1, 0, false) = 0; episode('b', 60, 2, true) = 1",
                "episode('x', 1, 0, false) = IAE; episode('t', 0, 0, false) = IAE",
                "episode('t', 61, 0, false) = IAE; episode('b', 1, -1, false) = IAE",
                "episode('b', 1, 3, false) = IAE; episode('b', -2147483648, 2147483647, true) = IAE",
                Script.each(2, 19, "episode('b', 9, 1, false) = #"), "episode('b', 9, 1, false) = ISE",
                "episode('B', 9, 1, false) = IAE; episode('b', 61, 1, false) = IAE; left() = 1");
    }

    private static void before() {
        Document.promise(12, "Tells a pair. Returns how many there are.",
                "before(0, 1) = IOOBE", Script.each(0, 3, "episode('t', 2, 0, false) = #"),
                "before(-1, 1) = IOOBE; before(4, 1) = IOOBE; before(1, -1) = IOOBE",
                "before(1, 4) = IOOBE; before(4, 4) = IOOBE",
                "before(1, 1) = IAE; before(2, 1) = IAE; before(0, 1) = 1; before(0, 1) = IAE",
                "before(0, 2) = 2; before(1, 2) = 3; bars(1) = b; begin(0) = 2",
                "before(0, 3) = 4; go(2); bars(1) = -; begin(1) = 4; before(0, 1) = IAE",
                "begin(2) = UOE; go(2); begin(2) = 6; before(0, 2) = IAE; before(2, 1) = IAE",
                "go(2); before(0, 2) = IAE; before(1, 3) = 5; before(1, 4) = IOOBE");
        Script.run("12 before, the second one begun",
                Script.each(0, 2, "episode('b', 2, 0, false) = #"),
                "begin(2); before(0, 2) = UOE; before(1, 0) = IAE; go(2); before(1, 2) = UOE",
                "begin(0); before(0, 1) = 1; go(2); bars(1) = -");
    }

    private static void beforeAtItsLimit() {
        Script.run("12 before, 40 pairs",
                Script.each(0, 19, "episode('b', 2, 0, false) = #"),
                Script.each(1, 19, "before(0, #) = #"), "before(1, 2) = 20",
                "before(1, 3) = 21; before(1, 4) = 22", Script.each(5, 19, "before(1, #)"),
                "before(2, 3) = 38; before(2, 4) = 39; before(2, 5) = 40; before(2, 6) = ISE",
                "before(2, 5) = IAE; before(6, 2) = IAE; before(20, 2) = IOOBE",
                "begin(0); go(2); begin(1); go(2); begin(6); before(2, 6) = UOE; before(5, 6) = UOE");
    }

    private static void tell() {
        Document.promise(13, "Tells a line of an episode. Returns how many there are.",
                "tell(0, 'a', 0, 0) = IOOBE; person(1, 1, 'l'); tell(0, 'a', 0, 0) = IOOBE",
                "episode('t', 2, 0, false); tell(0, 'x', 1, 0) = IOOBE; tell(-1, 'a', 0, 0) = IOOBE",
                "tell(1, 'a', 0, 0) = IOOBE; tell(0, 'a', -1, 0) = IOOBE",
                "tell(0, 'x', 0, 0) = IAE; tell(0, 'k', 0, 8) = IAE; tell(0, 'k', 0, -1) = IAE",
                "tell(0, 'f', 0, 8) = IAE; tell(0, 'f', 0, -1) = IAE",
                "tell(0, 'a', 0, 99) = 1; tell(0, 'd', 0, -99) = 2; tell(0, 'k', 0, 7) = 3; bars(0) = k",
                "tell(0, 'f', 0, 0) = 4; tell(0, 'f', 0, 0) = 5; learn(0, 7) = 1; bars(0) = -; begin(0)",
                "tell(0, 'f', 0, 1) = UOE; tell(0, 'x', 0, 1) = IAE; go(2); tell(0, 'a', 0, 1) = UOE",
                "isAlive(0) = false; knows(0, 0) = true; knows(0, 1) = false");
    }

    private static void tellAgainstTheTrunk() {
        String start = "person(1, 1, 'l'); person(1, 1, 'l'); episode('t', 1, 0, false); episode('b', 1, 0, false);"
                + "episode('b', 1, 0, false); episode('t', 1, 0, false);";
        Script.run("13 tell, no death of whom the trunk needs", start,
                "tell(0, 'a', 0, 0) = 1; tell(1, 'd', 0, 0) = UOE; tell(1, 'd', 1, 0) = 2",
                "tell(1, 'x', 0, 0) = IAE; tell(3, 'a', 1, 0) = UOE; tell(0, 'a', 1, 0) = UOE",
                "tell(3, 'd', 0, 0) = 3; tell(0, 'd', 0, 0) = 4; tell(2, 'a', 1, 0) = 5; isSound() = true",
                "begin(0); go(1); tell(1, 'd', 0, 0) = UOE; begin(1); go(1); tell(3, 'a', 1, 0) = UOE");
        Script.run("13 tell, what must be played before", start,
                "before(0, 1) = 1; before(1, 2) = 2; tell(0, 'a', 0, 0) = 1; tell(1, 'd', 0, 0) = 2",
                "tell(2, 'd', 0, 0) = 3; tell(3, 'a', 0, 0) = UOE; before(2, 3) = 3",
                "tell(3, 'a', 0, 0) = UOE; tell(0, 'a', 0, 0) = 4; isSound() = true");
        Script.run("13 tell, many ways between",
                "person(1, 1, 'l'); person(1, 1, 'l'); episode('t', 1, 0, false); episode('t', 1, 0, false)",
                Script.each(2, 6, "episode('b', 1, 0, false)"), "before(0, 2); before(1, 3); before(2, 6)",
                "before(3, 6); before(4, 6); before(4, 5); tell(0, 'a', 0, 0); tell(1, 'a', 1, 0)",
                "tell(6, 'd', 0, 0) = 3; tell(6, 'd', 1, 0) = 4; tell(5, 'd', 0, 0) = UOE",
                "tell(3, 'd', 0, 0) = UOE; tell(2, 'd', 1, 0) = UOE; isSound() = true");
        Script.run("13 tell, a chain",
                "person(1, 1, 'l'); episode('t', 1, 0, false)", Script.each(1, 19, "episode('b', 1, 0, false)"),
                "before(0, 5); before(5, 12); before(12, 13); before(3, 19); tell(0, 'a', 0, 0) = 1",
                "tell(19, 'd', 0, 0) = UOE; before(13, 19); tell(19, 'd', 0, 0) = 2",
                "tell(3, 'd', 0, 0) = UOE; tell(4, 'd', 0, 0) = UOE; tell(12, 'd', 0, 0) = 3");
    }

    private static void tellAtItsLimit() {
        Script.run("13 tell, 60 lines",
                "person(1, 1, 'l'); episode('t', 1, 0, false); episode('b', 1, 0, false)",
                "episode('t', 1, 0, false)", "tell(0, 'a', 0, 0) = 1",
                Script.each(2, 60, "tell(1, 'f', 0, 3) = #"), "tell(1, 'f', 0, 3) = ISE",
                "tell(1, 'a', 0, 0) = ISE; tell(1, 'd', 0, 0) = UOE; tell(1, 'f', 0, 8) = IAE",
                "tell(1, 'f', 1, 3) = IOOBE; begin(2); tell(2, 'f', 0, 3) = UOE");
    }

    private static void bars() {
        Document.promise(14, "Returns what bars an episode. Returns the letter, '-' for nothing.",
                "bars(0) = IOOBE; person(1, 0, 'l'); episode('t', 1, 0, false); tell(0, 'd', 0, 0)",
                "episode('t', 1, 0, false); episode('t', 60, 1, true); episode('t', 60, 1, true)",
                "episode('b', 60, 0, true); episode('b', 60, 0, true); episode('b', 60, 0, true)",
                "episode('b', 60, 0, false); episode('b', 1, 0, false); before(1, 2)",
                Script.each(2, 4, "tell(#, 'a', 0, 0)"), Script.each(2, 5, "tell(#, 'k', 0, 0)"),
                "bars(9) = IOOBE; bars(-1) = IOOBE; begin(0); bars(0) = g; bars(2) = g; go(1)",
                "go(120); go(120); go(120); go(119); bars(7) = -; go(1)",
                "bars(0) = p; bars(1) = -; bars(2) = b; bars(3) = m; bars(4) = a; bars(5) = k; bars(6) = o",
                "bars(7) = x; bars(8) = -; offer(1); bars(6) = x; learn(0, 0); bars(5) = x; bars(4) = a",
                "begin(8);", Script.each(0, 8, "bars(#) = g"), "go(1); bars(8) = p");
        Script.run("14 bars, by a need of another person",
                Script.each(0, 11, "person(1, 0, 'l')"), "episode('b', 1, 0, false); episode('b', 1, 0, false)",
                "tell(0, 'k', 3, 7); tell(0, 'k', 11, 7); learn(3, 7); bars(0) = k; learn(11, 6); bars(0) = k",
                "learn(11, 7); bars(0) = -; tell(0, 'a', 11, 0); bars(0) = -; tell(1, 'd', 10, 0)",
                "begin(1); go(1); bars(0) = -");
    }

    private static void begin() {
        Document.promise(15, "Begins an episode. Returns the minute at which it ends.",
                "begin(0) = IOOBE; episode('t', 10, 0, true); episode('t', 5, 0, true); episode('b', 1, 1, false)",
                "begin(-1) = IOOBE; begin(3) = IOOBE; begin(0) = UOE; begin(2) = UOE",
                "offer(1) = 1; go(3); begin(0) = 13; begin(1) = UOE; begin(0) = UOE",
                "go(10) = 13; isPlayed(0) = true; begin(0) = UOE; bars(1) = o; offer(9) = 9",
                "begin(1) = 18; offer(1) = 9; offer(1) = ISE");
        Script.run("15 begin, no offering for others", "episode('t', 10, 0, false); offer(9); begin(0) = 10",
                "offer(1) = ISE");
    }

    private static void going() {
        Document.promise(16, "Returns which episode goes on. Returns its number.",
                "going() = NSEE; episode('t', 2, 0, false); episode('b', 3, 0, false); going() = NSEE",
                "begin(1); going() = 1; go(2); going() = 1; go(1); going() = NSEE; begin(0); going() = 0");
    }

    private static void isPlayed() {
        Document.promise(17, "Tells whether an episode was played. Returns true if so.",
                "isPlayed(0) = IOOBE; episode('t', 2, 0, false); episode('b', 3, 0, false)",
                "isPlayed(-1) = IOOBE; isPlayed(2) = IOOBE; isPlayed(0) = false; begin(0)",
                "go(1); isPlayed(0) = false; go(1); isPlayed(0) = true; isPlayed(1) = false");
        Script.run("17 effects come as it ends",
                "person(1, 1, 'l'); person(2, 1, 'l'); episode('b', 3, 0, false); tell(0, 'd', 0, 0)",
                "tell(0, 'f', 0, 2); tell(0, 'f', 1, 3); begin(0); go(2); isAlive(0) = true; knows(1, 3) = false",
                "go(1); isAlive(0) = false; knows(0, 2) = true; knows(1, 3) = true; isAlive(1) = true",
                "attention() = 100");
    }

    private static void left() {
        Document.promise(18, "Returns how many episodes of the trunk are left. Returns their number.",
                "left() = 0; episode('t', 2, 0, false); episode('b', 3, 0, false); episode('t', 2, 2, true)",
                "left() = 2; begin(0); left() = 2; go(2); left() = 1; begin(1); left() = 1; go(3); left() = 1");
    }

    private static void isLost() {
        Document.promise(19, "Tells whether the trunk is lost. Returns true if so.",
                "isLost() = false",
                "episode('t', 1, 0, false); episode('b', 1, 0, false); episode('t', 1, 1, false); isLost() = false",
                "go(120); go(60); begin(0); go(1); nextMode() = 1; isLost() = false; episode('t', 1, 0, false)",
                "isLost() = true");
        Script.run("19 isLost, by the mode of the first one",
                "episode('t', 1, 0, false); go(120); go(60); isLost() = false; nextMode() = 1; isLost() = true");
        Script.run("19 isLost, by the dead",
                "person(1, 1, 'l'); person(1, 1, 'l'); episode('t', 1, 0, false); episode('t', 1, 0, false)",
                "episode('b', 1, 0, false); tell(0, 'a', 0, 0); tell(0, 'd', 0, 0); tell(2, 'a', 0, 0); begin(0)",
                "isLost() = false; go(1); isAlive(0) = false; isLost() = false; tell(1, 'a', 1, 0)",
                "isLost() = false; tell(1, 'a', 0, 0) = 5; isLost() = true");
        Script.run("19 isLost, by the time", Script.each(0, 8, "episode('t', 60, 0, false)"),
                "isLost() = false; begin(0); go(30); isLost() = false; go(30); isLost() = false; go(1);",
                "isLost() = true");
        Script.run("19 isLost, one minute too many", Script.each(0, 8, "episode('t', 60, 0, false)"),
                "isLost() = false; episode('b', 60, 0, false); isLost() = false; episode('t', 1, 0, false)",
                "isLost() = true");
        Script.run("19 isLost, by a branch that goes on", Script.each(0, 7, "episode('t', 60, 0, false)"),
                "episode('b', 60, 0, false); go(1); isLost() = false; begin(8) = 61; isLost() = true",
                "go(60); isLost() = true");
        Script.run("19 isLost, a branch that just fits", Script.each(0, 7, "episode('t', 60, 0, false)"),
                "episode('b', 60, 0, false); begin(8) = 60; isLost() = false; go(60); isLost() = false");
        Script.run("19 isLost, at dawn", "go(120); go(120); go(120); go(120); go(60) = 540; isLost() = false",
                "episode('b', 1, 0, false); isLost() = false; episode('t', 1, 0, false); isLost() = true");
    }

    private static void orders() {
        Document.promise(20, "Returns how many good orders there are of those that are left. Returns their number.",
                "orders() = 1; episode('b', 1, 0, false); orders() = 1",
                "episode('t', 60, 2, true); orders() = 1; episode('t', 60, 0, true); orders() = 2",
                "episode('t', 1, 1, true); orders() = 6; before(1, 3); orders() = 3; before(2, 3); orders() = 2",
                "before(0, 2); orders() = 0; begin(0); orders() = 2; go(1); orders() = 2");
        Script.run("20 orders, of six", Script.each(0, 5, "episode('t', 60, 0, false)"), "orders() = 720",
                "episode('t', 60, 0, false); orders() = UOE; begin(3); orders() = UOE",
                "go(60); orders() = 720; begin(4); orders() = 120; go(60); orders() = 120",
                Script.each(0, 2, "begin(#); go(60)"), "orders() = 2; begin(5); go(60); begin(6); orders() = 1",
                "go(60); left() = 0; orders() = 1");
        Script.run("20 orders, by facts and deaths",
                "person(1, 1, 'l'); person(1, 1, 'l')", Script.each(0, 3, "episode('t', 1, 0, false)"),
                "tell(0, 'f', 0, 1); tell(1, 'k', 0, 1); orders() = 12; tell(2, 'f', 0, 1); orders() = 16",
                "tell(3, 'd', 1, 0); tell(1, 'a', 1, 0); orders() = 6; tell(3, 'd', 0, 0); orders() = 6",
                "learn(0, 1); orders() = 12; tell(3, 'k', 1, 1); orders() = 0; learn(1, 1); orders() = 12",
                "isSound() = true");
        Script.run("20 orders, who dies of the same episode", "person(1, 1, 'l'); episode('t', 1, 0, false)",
                "tell(0, 'a', 0, 0); tell(0, 'd', 0, 0); orders() = 1; episode('t', 1, 0, false)",
                "tell(1, 'a', 0, 0); orders() = 1; tell(0, 'k', 0, 0); tell(0, 'f', 0, 0); orders() = 0");
        Script.run("20 orders, of the last persons", Script.each(0, 11, "person(1, 1, 'l')"),
                "episode('t', 1, 0, false); episode('t', 1, 0, false); tell(0, 'f', 11, 7); tell(1, 'k', 11, 7)",
                "orders() = 1; tell(1, 'd', 11, 0); tell(0, 'a', 10, 0); orders() = 1; tell(1, 'd', 10, 0)",
                "orders() = 1; tell(0, 'd', 9, 0); tell(1, 'a', 9, 0); orders() = 0");
    }

    private static void ordersBehindWhatGoesOn() {
        String start = "person(1, 1, 'l'); person(1, 1, 'l'); episode('b', 5, 0, false); episode('t', 5, 0, false);"
                + "episode('t', 5, 0, false); episode('t', 5, 0, false);";
        Script.run("20 orders, a branch goes on", start,
                "before(0, 1); tell(0, 'f', 0, 4); tell(2, 'k', 0, 4); orders() = 0; begin(0); orders() = 6",
                "knows(0, 4) = false; go(4); orders() = 6; go(1); orders() = 6; before(1, 2); orders() = 3");
        Script.run("20 orders, one of the trunk goes on", start,
                "tell(1, 'd', 0, 0); tell(1, 'f', 1, 4); tell(2, 'a', 0, 0); tell(3, 'k', 1, 4); orders() = 1",
                "begin(1); orders() = 0; isLost() = false; go(5); orders() = 0; isLost() = true");
        Script.run("20 orders, some played and one goes on", start,
                "before(0, 2); before(1, 3); begin(0); go(5); begin(1); orders() = 2; go(4); orders() = 2");
        Script.run("20 orders, what goes on teaches", start,
                "tell(1, 'f', 1, 4); tell(2, 'k', 1, 4); before(1, 3); begin(1); orders() = 2; before(2, 3);",
                "orders() = 1");
    }

    private static void cut() {
        Document.promise(21, "Returns how many minutes a cut for the radio has. Returns their sum.",
                "cut(0) = IAE; cut(541) = IAE; cut(-5) = IAE; cut(1) = 0; cut(540) = 0",
                "episode('t', 10, 0, false); episode('b', 7, 0, false); episode('b', 3, 0, false)",
                "episode('b', 7, 0, false); episode('t', 4, 0, false); episode('b', 1, 0, false); cut(1) = 0",
                "begin(1); go(6); cut(540) = 0; go(1); cut(540) = 7; cut(6) = 0; cut(7) = 7; begin(0); go(10)",
                "cut(9) = NSEE; cut(0) = IAE; cut(10) = 10; cut(16) = 10; cut(17) = 17; cut(540) = 17",
                "begin(2); go(3); begin(3); go(7); begin(4); go(4); cut(13) = NSEE",
                "cut(14) = 14; cut(16) = 14; cut(17) = 17; cut(23) = 17; cut(24) = 24; cut(30) = 24",
                "cut(31) = 31; cut(540) = 31");
        Script.run("21 cut, of the shortest and the longest branches",
                "episode('b', 60, 0, false); episode('b', 1, 0, false); episode('b', 59, 0, false); begin(0); go(60)",
                "cut(59) = 0; cut(60) = 60; begin(1); go(1); cut(60) = 1; cut(1) = 1; begin(2); go(59); cut(60) = 60",
                "cut(119) = 60; cut(120) = 120; cut(59) = 1");
    }
}

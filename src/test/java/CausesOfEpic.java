/** Of CausesTest: promises 11 to 21. */
final class CausesOfEpic {
    private static final String NIGHT = CausesTest.NIGHT;
    private static final String RANGE = CausesTest.RANGE;
    private static final String NO_EPISODE = "there is no such episode";
    private static final String FOUR = Script.each(0, 3, "episode('t', 2, 0, false) = #");
    private static final String TWENTY = Script.each(0, 19, "episode('b', 2, 0, false) = #");
    private static final String TOLD = "person(1, 1, 'l'); person(1, 1, 'r'); episode('t', 2, 0, false);"
            + "episode('b', 2, 0, false); episode('t', 2, 0, false);";

    private CausesOfEpic() {
    }

    static void run() {
        episodes();
        before();
        tell();
        tellAgainstTheTrunk();
        begin();
        orders();
        cut();
    }

    private static void episodes() {
        CausesTest.letters(11, "there is no such kind", "", "episode(#, 1, 0, false)", "tb");
        CausesTest.range(11, RANGE, "IAE", NIGHT, "episode('t', #, 0, false) = 3", 1, 60);
        CausesTest.range(11, RANGE, "IAE", NIGHT, "episode('b', 60, #, true) = 3", 0, 2);
        Document.refusal(11, "there are 20", TWENTY,
                "episode('t', 60, 2, true) = ISE; episode('b', 1, 0, false) = ISE; left() = 0; bars(20) = IOOBE");
        CausesTest.range(14, NO_EPISODE, "IOOBE", NIGHT, "bars(#) = g", 0, 2);
        CausesTest.range(14, NO_EPISODE, "IOOBE", TWENTY, "bars(#) = -", 0, 19);
        Document.refusal(14, NO_EPISODE, "bars(0) = IOOBE");
        CausesTest.range(17, NO_EPISODE, "IOOBE", NIGHT, "isPlayed(#)", 0, 2);
        CausesTest.range(17, NO_EPISODE, "IOOBE", TWENTY, "isPlayed(#) = false", 0, 19);
        Document.refusal(17, NO_EPISODE, "isPlayed(0) = IOOBE");
        Document.refusal(16, "none does", "going() = NSEE; episode('t', 2, 0, false); going() = NSEE; begin(0)",
                "going() = 0; go(1); going() = 0; go(1); going() = NSEE");
    }

    private static void before() {
        Document.refusal(12, NO_EPISODE, FOUR, "before(4, 3) = IOOBE; before(-1, 3) = IOOBE; before(2, 3) = 1",
                "before(-2147483648, 3) = IOOBE; before(2147483647, 3) = IOOBE");
        Document.refusal(12, "for either", FOUR, "before(0, 4) = IOOBE; before(0, -1) = IOOBE; before(0, 3) = 1",
                "before(4, 4) = IOOBE; before(-1, -1) = IOOBE; before(3, 2147483647) = IOOBE");
        Document.refusal(12, "for either", "before(0, 1) = IOOBE; episode('t', 1, 0, false); before(0, 1) = IOOBE");
        Document.refusal(12, "the second one has no greater number", FOUR,
                "before(2, 1) = IAE; before(2, 2) = IAE; before(3, 0) = IAE; before(2, 3) = 1; bars(1) = -",
                "bars(2) = -");
        Document.refusal(12, "it is told", FOUR,
                "before(1, 2) = 1; before(1, 2) = IAE; before(1, 3) = 2; before(1, 2) = IAE; before(0, 2) = 3");
        Document.refusal(12, "the second one was begun", FOUR,
                "begin(2); before(0, 2) = UOE; before(2, 3) = 1; go(2); before(0, 2) = UOE; before(1, 2) = UOE",
                "bars(3) = -; before(0, 3) = 2; bars(3) = b");
        Document.refusal(12, "there are 40", TWENTY, Script.each(1, 19, "before(0, #) = #"),
                Script.each(2, 19, "before(1, #)"), "before(2, 3) = 38; before(2, 4) = 39; before(2, 5) = 40",
                "before(2, 6) = ISE; before(18, 19) = ISE; begin(0); go(2); begin(1); go(2); bars(6) = -; bars(5) = b");
    }

    private static void tell() {
        String noneSuch = "there is no such episode or person";
        CausesTest.range(13, noneSuch, "IOOBE", TOLD, "tell(#, 'k', 1, 7) = 1", 0, 2);
        CausesTest.range(13, noneSuch, "IOOBE", TOLD, "tell(0, 'd', #, 9) = 1", 0, 1);
        Document.refusal(13, noneSuch, "tell(0, 'a', 0, 0) = IOOBE; person(1, 1, 'l'); tell(0, 'a', 0, 0) = IOOBE");
        Document.refusal(13, noneSuch, "episode('t', 1, 0, false); tell(0, 'f', 0, 0) = IOOBE");
        CausesTest.letters(13, "there is no such sort", TOLD, "tell(2, #, 0, 0)", "akdf");
        CausesTest.range(13, "fact by 'k' and 'f'", "IAE", TOLD, "tell(1, 'k', 1, #) = 1", 0, 7);
        CausesTest.range(13, "fact by 'k' and 'f'", "IAE", TOLD, "tell(1, 'f', 1, #) = 1", 0, 7);
        Script.run("13 tell, a fact without meaning", TOLD, "tell(0, 'a', 0, 8) = 1; tell(0, 'a', 1, -1) = 2",
                "tell(0, 'd', 1, -2147483648) = 3; tell(0, 'd', 1, 2147483647) = 4");
        Document.refusal(13, "the episode was begun", TOLD,
                "begin(1); tell(1, 'd', 0, 0) = UOE; tell(1, 'f', 0, 0) = UOE; tell(1, 'a', 0, 0) = UOE",
                "tell(1, 'k', 0, 0) = UOE; tell(0, 'k', 0, 0) = 1; go(2); tell(1, 'd', 0, 0) = UOE",
                "tell(1, 'f', 0, 0) = UOE; isAlive(0) = true; knows(0, 0) = false");
        Document.refusal(13, "there are 60", TOLD, Script.each(1, 20, "tell(0, 'f', 0, 3) = #"),
                Script.each(21, 59, "tell(1, 'k', 0, 3) = #"), "tell(2, 'd', 1, 0) = 60; tell(2, 'd', 0, 0) = ISE",
                "tell(0, 'f', 1, 1) = ISE; tell(1, 'k', 1, 1) = ISE; tell(2, 'a', 0, 0) = ISE; begin(0); go(2)",
                "knows(0, 3) = true; knows(1, 1) = false; begin(2); go(2); isAlive(0) = true; isAlive(1) = false");
    }

    private static void tellAgainstTheTrunk() {
        String cause = "somebody would die in a branch whom the trunk needs alive";
        Document.refusal(13, cause, TOLD, "tell(2, 'a', 1, 0) = 1; tell(1, 'd', 1, 0) = UOE; tell(1, 'd', 0, 0) = 2",
                "begin(1); go(2); isAlive(1) = true; isAlive(0) = false");
        Document.refusal(13, cause, TOLD, "tell(1, 'd', 1, 0) = 1; tell(2, 'a', 1, 0) = UOE; tell(2, 'a', 0, 0) = 2",
                "tell(0, 'a', 1, 0) = UOE; begin(1); go(2); bars(2) = -; bars(0) = -; isLost() = false");
        Document.refusal(13, cause, TOLD, "tell(0, 'a', 1, 0) = 1; before(0, 2) = 1; tell(1, 'd', 1, 0) = UOE",
                "before(0, 1) = 2; tell(1, 'd', 1, 0) = 2; tell(2, 'a', 1, 0) = UOE; before(1, 2) = 3",
                "tell(2, 'a', 1, 0) = UOE; tell(2, 'd', 1, 0) = 3");
    }

    private static void begin() {
        CausesTest.range(15, NO_EPISODE, "IOOBE", FOUR, "begin(#) = 2", 0, 3);
        CausesTest.range(15, NO_EPISODE, "IOOBE", TWENTY, "begin(#) = 2", 0, 19);
        Document.refusal(15, NO_EPISODE, "begin(0) = IOOBE");
        String cause = "something bars it";
        Document.refusal(15, cause, FOUR, "begin(0); bars(0) = g; begin(0) = UOE; begin(1) = UOE; going() = 0; go(2)",
                "bars(0) = p; begin(0) = UOE; begin(1) = 4");
        Document.refusal(15, cause, FOUR, "before(0, 1); bars(1) = b; begin(1) = UOE; begin(0); go(2); begin(1) = 4");
        Document.refusal(15, cause, "episode('t', 1, 1, false); bars(0) = m; begin(0) = UOE; going() = NSEE",
                Script.pass(0, 180), "nextMode(); begin(0) = 181");
        Document.refusal(15, cause, TOLD, "tell(0, 'd', 0, 0); tell(2, 'a', 0, 0); bars(2) = -; begin(0); go(2)",
                "bars(2) = a; begin(2) = UOE; going() = NSEE; begin(1) = 4");
        Document.refusal(15, cause, TOLD, "tell(2, 'k', 1, 7); bars(2) = k; begin(2) = UOE; learn(1, 7); begin(2) = 2");
        Document.refusal(15, cause, "episode('b', 3, 0, true); offer(1); begin(0); go(3); episode('t', 4, 0, true)",
                "bars(1) = o; begin(1) = UOE; offer(1) = 1; begin(1) = 7; offer(1) = 1");
        Document.refusal(15, cause, "episode('t', 60, 0, true); offer(2);", Script.pass(0, 481),
                "bars(0) = x; begin(0) = UOE; offer(1) = 3; episode('t', 59, 0, true); begin(1) = 540; offer(1) = 3");
    }

    private static void orders() {
        Document.refusal(20, "more than 6 are left", Script.each(0, 5, "episode('t', 60, 0, false)"),
                "episode('b', 60, 0, false); orders() = 720; episode('t', 60, 0, false); orders() = UOE; left() = 7",
                "begin(0); left() = 7; orders() = UOE; go(60); left() = 6; orders() = 720");
        Document.refusal(20, "more than 6 are left", Script.each(0, 19, "episode('t', 60, 0, false)"),
                "orders() = UOE");
    }

    private static void cut() {
        CausesTest.range(21, RANGE, "IAE", "", "cut(#) = 0", 1, 540);
        Document.refusal(21, "the trunk is longer", FOUR,
                "cut(1) = 0; begin(0); go(1); cut(1) = 0; go(1); cut(1) = NSEE; cut(2) = 2; cut(3) = 2; begin(3)",
                "cut(2) = 2; go(2); cut(3) = NSEE; cut(4) = 4; episode('b', 1, 0, false); begin(4); go(1)",
                "cut(3) = NSEE; cut(4) = 4; cut(5) = 5");
    }
}

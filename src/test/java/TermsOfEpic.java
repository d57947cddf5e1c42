/** Of TermsTest: what is said of episodes, pairs and lines, and of what bars an episode. */
final class TermsOfEpic {
    private static final String TWO_PERSONS = "person(1, 0, 'l'); person(1, 1, 'r');";
    private static final String BARRED = "An episode is barred by the first of these:";

    private TermsOfEpic() {
    }

    static void run() {
        episodes();
        pairs();
        lines();
        linesMean();
        branches();
        barredByTheFirst();
        barredByOneAlone();
        begun();
        effects();
        dead();
    }

    private static void episodes() {
        String sentence = "At most 20 are numbered from 0, each of the trunk 't' or of a branch 'b'";
        Document.sentence(sentence, Script.each(0, 9, "episode('t', 1, 0, false) = #"),
                Script.each(10, 19, "episode('b', 60, 2, true) = #"), "episode('t', 1, 0, false) = ISE; left() = 10",
                "episode('b', 1, 0, false) = ISE; isPlayed(19) = false; isPlayed(20) = IOOBE; bars(9) = -",
                "bars(10) = m");
        String rest = "with minutes, 1 to 60, and a mode in which it is played, perhaps a spell";
        Document.sentence(rest, "episode('t', 1, 0, false) = 0; episode('b', 60, 0, false) = 1; begin(0) = 1; go(1)",
                "begin(1) = 61; episode('t', 0, 0, false) = IAE; episode('t', 61, 0, false) = IAE; left() = 0");
        Document.sentence(rest, Script.each(0, 2, "episode('b', 1, #, false) = #"), "episode('t', 1, -1, false) = IAE",
                "episode('t', 1, 3, false) = IAE; bars(0) = -; bars(1) = m; bars(2) = m;", Script.pass(0, 360),
                "bars(0) = -; bars(1) = m; nextMode(); bars(0) = m; bars(1) = -; bars(2) = m; nextMode(); bars(1) = m",
                "bars(2) = -; begin(2) = 361");
        Document.sentence(rest, "episode('t', 1, 0, true); episode('t', 1, 0, false); bars(0) = o; bars(1) = -");
    }

    private static void pairs() {
        String sentence = "At most 40 pairs tell that one must be played before another one, with a greater number.";
        String twenty = Script.each(0, 19, "episode('b', 1, 0, false)");
        Document.sentence(sentence, twenty, Script.each(1, 19, "before(0, #) = #"), Script.each(2, 19, "before(1, #)"),
                "before(17, 18) = 38; before(17, 19) = 39; before(18, 19) = 40; before(16, 17) = ISE",
                "before(2, 3) = ISE; bars(17) = b; begin(0); go(1); begin(1); go(1); bars(17) = -; bars(18) = b",
                "bars(19) = b");
        Document.sentence(sentence, twenty, "before(19, 19) = IAE; before(19, 18) = IAE; before(0, 0) = IAE",
                "before(1, 0) = IAE; before(18, 19) = 1; before(0, 1) = 2; before(0, 19) = 3; bars(19) = b; begin(18)",
                "go(1); bars(19) = b; bars(1) = b; begin(0); go(1); bars(19) = -; bars(1) = -");
        Document.sentence(sentence, twenty, Script.each(0, 18, "before(#, 19)"), Script.each(0, 18, "begin(#); go(1)")
                .replace("begin(18); go(1);", "bars(19) = b; begin(18); go(1);"), "bars(19) = -; begin(19) = 20");
    }

    private static void lines() {
        String sentence = "At most 60 lines tell of an episode";
        Document.sentence(sentence, TWO_PERSONS, "episode('t', 1, 0, false)",
                Script.each(1, 60, "tell(0, 'f', 0, 0) = #"),
                "tell(0, 'f', 0, 0) = ISE; tell(0, 'a', 0, 0) = ISE; tell(0, 'k', 0, 0) = ISE",
                "tell(0, 'd', 0, 0) = ISE; bars(0) = -; begin(0); go(1); isAlive(0) = true; knows(0, 0) = true");
        Document.sentence(sentence, TWO_PERSONS, Script.each(0, 19, "episode('b', 1, 0, false)"),
                Script.each(0, 19, "tell(#, 'a', 0, 0); tell(#, 'f', 1, 7)"), Script.each(0, 18, "tell(#, 'd', 1, 0)"),
                "tell(19, 'f', 0, 1) = 60; tell(19, 'f', 0, 0) = ISE; tell(0, 'f', 0, 0) = ISE");
    }

    private static void linesMean() {
        Document.sentence("a need, that a person lives 'a', or knows a fact 'k'", TWO_PERSONS,
                "episode('b', 1, 0, false); episode('b', 1, 0, false); episode('b', 1, 0, false); tell(0, 'd', 1, 0)",
                "tell(1, 'a', 1, 0); tell(2, 'k', 1, 7); bars(1) = -; bars(2) = k; learn(0, 7); bars(2) = k",
                "learn(1, 6); bars(2) = k; learn(1, 7); bars(2) = -; begin(0); go(1); bars(1) = a; bars(2) = -");
        Document.sentence("or an effect, that a person dies 'd', or knows a fact 'f'", TWO_PERSONS,
                "episode('b', 1, 0, false); tell(0, 'd', 1, 0); tell(0, 'f', 0, 7); tell(0, 'f', 1, 0); bars(0) = -",
                "isAlive(1) = true; knows(0, 7) = false; begin(0); isAlive(1) = true; go(1); isAlive(1) = false",
                "isAlive(0) = true; knows(0, 7) = true; knows(1, 0) = true; knows(1, 7) = false; knows(0, 0) = false");
    }

    private static void branches() {
        String sentence = "A branch lets nobody die whom an episode of the trunk needs alive,"
                + " unless this must be played before that, perhaps by others between; no line is told against that.";
        String trunkFirst = TWO_PERSONS + "episode('t', 1, 0, false); episode('b', 1, 0, false);"
                + "episode('b', 1, 0, false); episode('t', 1, 0, false);";
        Document.sentence(sentence, trunkFirst, "tell(0, 'a', 0, 0) = 1; tell(1, 'd', 0, 0) = UOE",
                "tell(1, 'd', 1, 0) = 2; tell(3, 'a', 1, 0) = UOE; tell(3, 'a', 0, 0) = 3; tell(2, 'd', 0, 0) = UOE",
                "tell(0, 'a', 1, 0) = UOE");
        Document.sentence(sentence, trunkFirst, "before(0, 1); tell(0, 'a', 0, 0) = 1; tell(1, 'd', 0, 0) = 2",
                "tell(2, 'd', 0, 0) = UOE; before(1, 2); tell(2, 'd', 0, 0) = 3; tell(3, 'a', 0, 0) = UOE");
        Document.sentence(sentence, trunkFirst, "before(1, 3); before(2, 3); tell(1, 'd', 0, 0) = 1",
                "tell(3, 'a', 0, 0) = UOE; tell(0, 'a', 0, 0) = UOE; before(0, 1); tell(0, 'a', 0, 0) = 2");
        Document.sentence(sentence, trunkFirst, "tell(0, 'k', 0, 0) = 1; tell(1, 'd', 0, 0) = 2",
                "tell(2, 'a', 0, 0) = 3; tell(3, 'd', 1, 0) = 4; tell(0, 'a', 1, 0) = 5; tell(3, 'a', 1, 0) = 6",
                "tell(1, 'f', 1, 0) = 7");
        Document.sentence(sentence, TWO_PERSONS, "episode('t', 1, 0, false); episode('t', 1, 0, false)",
                Script.each(2, 19, "episode('b', 1, 0, false)"), Script.each(0, 17, "before(#, 19)"),
                "before(17, 18); before(2, 17); before(0, 2); tell(0, 'a', 0, 0) = 1; tell(1, 'a', 1, 0) = 2",
                "tell(18, 'd', 0, 0) = 3; tell(18, 'd', 1, 0) = UOE; tell(19, 'd', 1, 0) = 4; tell(17, 'd', 0, 0) = 5",
                "tell(16, 'd', 0, 0) = UOE; tell(17, 'd', 1, 0) = UOE; before(1, 18); tell(18, 'd', 1, 0) = 6");
    }

    /** Each letter, while all that come behind it in the sentence apply, too. */
    private static void barredByTheFirst() {
        String all = "tell(#, 'a', 0, 0); tell(#, 'k', 1, 7);";
        Document.sentence(BARRED, TWO_PERSONS, "episode('b', 1, 0, false); tell(0, 'd', 0, 0)",
                "episode('b', 1, 0, false); episode('b', 60, 1, true); episode('b', 60, 1, true)",
                "episode('b', 60, 0, true); episode('b', 60, 0, true); episode('b', 60, 0, true)",
                "episode('b', 60, 0, false); episode('b', 59, 0, false); before(1, 2);", Script.each(2, 4, all),
                "tell(5, 'k', 1, 7); begin(0); go(1);", Script.pass(1, 481), "bars(0) = p; bars(1) = -; bars(2) = b",
                "bars(3) = m; bars(4) = a; bars(5) = k; bars(6) = o; bars(7) = x; bars(8) = -",
                Script.each(2, 7, "begin(#) = UOE"), "begin(8) = 540;",
                Script.each(0, 8, "bars(#) = g; begin(#) = UOE"));
        Document.sentence(BARRED, TWO_PERSONS, "episode('b', 60, 0, true); tell(0, 'a', 0, 0); tell(0, 'd', 0, 0)",
                "tell(0, 'k', 1, 7); learn(1, 7); offer(1); begin(0); go(60);", Script.pass(60, 500), "nextMode() = 1",
                "bars(0) = p; begin(0) = UOE");
    }

    /** Each letter, while nothing else applies. */
    private static void barredByOneAlone() {
        Document.sentence(BARRED, "episode('b', 2, 0, false); episode('b', 2, 0, false); begin(0); bars(1) = g; go(1)",
                "bars(1) = g; bars(0) = g; go(1); bars(1) = -; bars(0) = p; begin(1); bars(0) = g; go(2); bars(1) = p");
        Document.sentence("'b' one was not played that must be before", "episode('b', 1, 0, false)",
                "episode('t', 1, 0, false); episode('b', 1, 0, false); before(0, 2); before(1, 2); bars(2) = b",
                "begin(0); go(1); bars(2) = b; begin(1); bars(2) = g; go(1); bars(2) = -; bars(0) = p");
        Document.sentence("'o' it is a spell, and there is no offering", "episode('b', 1, 0, true); bars(0) = o",
                "offer(1) = 1; bars(0) = -; episode('b', 1, 0, true); begin(0); go(1); bars(1) = o; offer(9)",
                "bars(1) = -");
        String ends = "'x' it would end behind the minute 540.";
        Document.sentence(ends, "episode('t', 60, 0, false); episode('t', 1, 0, false);", Script.pass(0, 480),
                "bars(0) = -; go(1); bars(0) = x; begin(0) = UOE;", Script.pass(481, 539), "bars(1) = -; bars(0) = x",
                "go(1); bars(1) = x; begin(1) = UOE; going() = NSEE");
        Document.sentence(ends, "episode('t', 60, 0, false);", Script.pass(0, 480), "begin(0) = 540; go(59)",
                "isPlayed(0) = false; go(1) = 540; isPlayed(0) = true; bars(0) = p; going() = NSEE");
    }

    private static void begun() {
        String offering = "One that begins takes an offering, if it is a spell";
        Document.sentence(offering, Script.each(0, 9, "episode('b', 1, 0, true)"), "offer(9) = 9",
                Script.each(0, 8, "begin(#); go(1)"), "bars(9) = o; begin(9) = UOE; offer(1) = 1; begin(9) = 10; go(1)",
                "offer(9) = 9");
        Document.sentence(offering, "episode('b', 5, 0, true); episode('b', 5, 0, false); offer(2) = 2; begin(1)",
                "go(5); offer(1) = 3; begin(0) = 10; offer(1) = 3; go(5); offer(6) = 9; offer(1) = ISE");
        String minutes = "and goes on for its minutes; as it ends, it was played";
        Document.sentence(minutes, "episode('b', 1, 0, false); episode('t', 60, 0, false); begin(0) = 1; going() = 0",
                "isPlayed(0) = false; go(1); isPlayed(0) = true; going() = NSEE; begin(1) = 61; go(59); going() = 1",
                "isPlayed(1) = false; left() = 1; go(1); isPlayed(1) = true; going() = NSEE; left() = 0");
        Document.sentence(minutes, "episode('b', 60, 0, false); go(7); begin(0) = 67; go(120) = 127",
                "isPlayed(0) = true; going() = NSEE; bars(0) = p");
    }

    private static void effects() {
        String sentence = "and its effects come, in the order in which they were told.";
        Document.sentence(sentence, TWO_PERSONS, "episode('b', 2, 0, false); tell(0, 'f', 0, 1); tell(0, 'd', 0, 0)",
                "tell(0, 'f', 0, 2); tell(0, 'd', 0, 0); tell(0, 'f', 0, 1); begin(0); go(1); knows(0, 1) = false",
                "isAlive(0) = true; go(1); isAlive(0) = false; knows(0, 1) = true; knows(0, 2) = true",
                "knows(1, 1) = false");
        Document.sentence(sentence, Script.each(0, 11, "person(1, 1, 'l')"), "episode('b', 1, 0, false)",
                Script.each(0, 11, "tell(0, 'd', #, 0); tell(0, 'f', #, 0); tell(0, 'f', #, 7)"), "begin(0); go(1)",
                Script.each(0, 11, "isAlive(#) = false; knows(#, 0) = true; knows(#, 7) = true; knows(#, 1) = false"),
                Script.each(0, 11, "learn(#, 3) = 3"));
    }

    private static void dead() {
        Document.sentence("Somebody who is dead stays so, and can know still.", TWO_PERSONS,
                "episode('b', 1, 0, false); episode('b', 1, 0, false); tell(0, 'd', 0, 0); tell(0, 'd', 0, 0)",
                "tell(1, 'f', 0, 3); learn(0, 2) = 1; begin(0); go(1); isAlive(0) = false; knows(0, 2) = true",
                "learn(0, 7) = 2; begin(1); go(1); isAlive(0) = false; knows(0, 3) = true; learn(0, 0) = 4",
                "isAlive(0) = false;", Script.pass(2, 540), "isAlive(0) = false; isAlive(1) = true",
                "knows(0, 7) = true");
    }
}

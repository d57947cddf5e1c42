/** Promises 44 to 47. */
public final class SumsTest {
    public static void main(String[] args) {
        checksum();
        checksumThatWrapsRound();
        playedShare();
        meanLength();
        isSound();
        Document.closePromises(44, 47);
        Script.close("SumsTest");
    }

    private static void checksum() {
        long persons = (7L * 31 + 256 + 1 + 128) * 31 + 256;
        long dead = (7L * 31 + 256 + 1 + 128) * 31;
        Document.promise(44, "Returns a sum over the night. Returns 7 at first, then for each person 31 times itself"
                + " plus 256 if it lives, and 2 to the power of each fact that it knows, then for each figure 31"
                + " times itself plus the letter of where it is as a number, then for each episode 31 times itself"
                + " plus 1 if it was played, then 31 times itself plus the minute.",
                "checksum() = 217; go(9); checksum() = 226");
        Script.run("44 checksum, of persons", "person(1, 1, 'l'); person(1, 1, 'l'); learn(0, 0); learn(0, 7)",
                "checksum() = " + persons * 31, "figure(1); figure(1); take(1)",
                "checksum() = " + ((persons * 31 + 'b') * 31 + '0') * 31, "put(1, true)",
                "checksum() = " + ((persons * 31 + 'b') * 31 + 's') * 31, "episode('t', 4, 0, false)",
                "episode('b', 4, 0, false); tell(1, 'd', 1, 0); begin(1)",
                "checksum() = " + ((persons * 31 + 'b') * 31 + 's') * 31 * 31 * 31, "go(4)",
                "checksum() = " + ((((dead * 31 + 'b') * 31 + 's') * 31 * 31 + 1) * 31 + 4));
    }

    private static void checksumThatWrapsRound() {
        long sum = 7;
        for (int i = 0; i < 12; i++) {
            sum = 31 * sum + 256 + (i == 11 ? 128 : 0);
        }
        for (int i = 0; i < 20; i++) {
            sum = 31 * sum + 'b';
        }
        Script.run("44 checksum, that wraps round", Script.each(0, 11, "person(1, 1, 'l')"), "learn(11, 7)",
                Script.each(0, 19, "figure(3)"), "checksum() = " + 31 * sum);
    }

    private static void playedShare() {
        Document.promise(45, "Returns the share of episodes that were played. Returns their number divided by that of"
                + " all, both converted to float.",
                "playedShare() = NSEE; episode('b', 1, 0, false); playedShare() = 0.0",
                "episode('t', 1, 0, false); episode('t', 1, 0, false); begin(1); playedShare() = 0.0; go(1)",
                "playedShare() = 0.33333334; begin(0); go(1); playedShare() = 0.6666667; begin(2); go(1)",
                "playedShare() = 1.0");
    }

    private static void meanLength() {
        Document.promise(46, "Returns the mean minutes of episodes that were played. Returns the sum divided by their"
                + " number, both converted to double.",
                "meanLength() = NSEE; episode('b', 7, 0, false); meanLength() = NSEE",
                "episode('t', 10, 0, false); episode('t', 3, 0, false); begin(0); meanLength() = NSEE; go(7)",
                "meanLength() = 7.0; begin(1); go(10); meanLength() = 8.5; begin(2); go(3)",
                "meanLength() = 6.666666666666667");
    }

    private static void isSound() {
        Document.promise(47, "Tells whether each episode that was played came behind all that must be before it; of"
                + " each person one figure at most is out, in each hand one at most; stems are in their order; and"
                + " nobody dies in a branch whom the trunk needs alive. Returns true if so.",
                "isSound() = true; person(1, 0, 'l'); person(2, 0, 'l'); person(1, 1, 'l')",
                Script.each(0, 2, "figure(#); take(#); put(#, true); isSound() = true"), "figure(0)",
                "take(0); take(1); isSound() = true; put(0, true); put(1, true); isSound() = true",
                "episode('t', 2, 0, false); episode('b', 2, 0, false); episode('t', 2, 0, false); before(0, 1)",
                "before(1, 2); tell(0, 'a', 0, 0); tell(1, 'd', 0, 0); isSound() = true; begin(0); go(2)",
                "isSound() = true; begin(1); go(2); begin(2); isSound() = true; go(2); isSound() = true");
        Script.run("47 isSound, the greater numbers first",
                Script.each(0, 3, "episode('t', 2, 0, false)"), "before(0, 2); begin(3); go(2); isSound() = true",
                "begin(1); go(2); isSound() = true; begin(0); go(2); isSound() = true; begin(2); go(2)",
                "isSound() = true");
        Script.run("47 isSound, deaths that may come",
                "person(1, 0, 'l'); person(1, 0, 'l'); episode('t', 2, 0, false); episode('b', 2, 0, false)",
                "episode('b', 2, 0, false); tell(0, 'a', 0, 0); tell(0, 'd', 0, 0); tell(1, 'd', 1, 0)",
                "tell(2, 'a', 1, 0); isSound() = true");
    }
}

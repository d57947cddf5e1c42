import java.util.ArrayList;
import java.util.NoSuchElementException;

/**
 * One night of the shadow play, from dusk to dawn: persons and their figures, episodes of the trunk and of its
 * branches, the going by of minutes, voices, music and the public. Not thread-safe.
 */
public final class GununganNight {
    private static final int MOST_PERSONS = 12;
    private static final int MOST_FIGURES = 20;
    private static final int MOST_EPISODES = 20;
    private static final int MOST_PAIRS = 40;
    private static final int MOST_LINES = 60;
    private static final int MOST_ON_STEM = 6;
    private static final int MOST_ORDERED = 6;
    private static final int MOST_OFFERINGS = 9;
    private static final int LAST_RANK = 9;
    private static final int LAST_VOICE = 5;
    private static final int LAST_FACT = 7;
    private static final int LAST_PIECE = 7;
    private static final int LAST_MODE = 2;
    private static final int HANDS = 2;
    private static final int LONGEST_EPISODE = 60;
    private static final int DAWN = 540;
    private static final int MINUTES_TO_MODE = 180;
    private static final int BEATS_IN_MINUTE = 10;
    private static final int FULL_ATTENTION = 100;
    private static final int NONE = -1;

    private static final char LEFT = 'l';
    private static final char RIGHT = 'r';
    private static final char BOX = 'b';
    private static final char STEM = 's';
    private static final char FIRST_HAND = '0';
    private static final char TRUNK = 't';
    private static final char BRANCH = 'b';
    private static final char NEEDS_ALIVE = 'a';
    private static final char NEEDS_KNOWN = 'k';
    private static final char DIES = 'd';
    private static final char LEARNS = 'f';
    private static final char NO_BAR = '-';

    private final ArrayList<Person> persons = new ArrayList<>();
    /** Of the night: who is dead, and who knows what. */
    private final Marks fates = new Marks();
    private final Stage stage = new Stage();
    private final Epic epic = new Epic();
    private final Music music = new Music();
    private final Audience audience = new Audience();
    private int minute = 0;
    private int mode = 0;
    private int offerings = 0;
    private boolean treeIsUp = true;
    private Person lastSpeaker = null;
    private int lastSpeechEnd = 0;
    private int barredFacts = 0;
    private int wishedFact = NONE;
    private boolean wishIsMet = false;

    public GununganNight() {
    }

    // Persons and figures

    public int person(int rank, int voice, char side) throws IllegalArgumentException, IllegalStateException {
        requireWithin(rank, 0, LAST_RANK);
        requireWithin(voice, 0, LAST_VOICE);
        requireSide(side);
        if (persons.size() >= MOST_PERSONS) {
            throw new IllegalStateException("there are 12 persons");
        }
        Person added = new Person(persons.size(), rank, voice, side);
        persons.add(added);
        return added.number;
    }

    public int figure(int person) throws IndexOutOfBoundsException, IllegalStateException {
        Person owner = personAt(person);
        if (stage.figures.size() >= MOST_FIGURES) {
            throw new IllegalStateException("there are 20 figures");
        }
        return stage.addFigure(owner);
    }

    public boolean isAlive(int person) throws IndexOutOfBoundsException {
        return lives(personAt(person));
    }

    public boolean knows(int person, int fact) throws IndexOutOfBoundsException, IllegalArgumentException {
        Person knower = personAt(person);
        requireFact(fact);
        return fates.hasFact(knower.number, fact);
    }

    public int learn(int person, int fact) throws IndexOutOfBoundsException, IllegalArgumentException {
        Person learner = personAt(person);
        requireFact(fact);
        fates.markFact(learner.number, fact);
        return Integer.bitCount(fates.factsOf(learner.number));
    }

    public int take(int figure) throws IndexOutOfBoundsException, UnsupportedOperationException {
        Figure taken = figureAt(figure);
        int hand = stage.freeHand();
        if (taken.isInHand() || hand == NONE || stage.hasAnotherOut(taken)) {
            throw new UnsupportedOperationException("the figure can't be taken");
        }
        stage.moveToHand(taken, hand);
        return hand;
    }

    public int put(int figure, boolean isStem) throws IndexOutOfBoundsException, UnsupportedOperationException {
        Figure away = figureAt(figure);
        if (!away.isInHand() || (isStem && stage.stemOf(away.person.side).size() >= MOST_ON_STEM)) {
            throw new UnsupportedOperationException("the figure can't be put there");
        }
        int hand = away.place - FIRST_HAND;
        if (isStem) {
            stage.moveToStem(away);
        } else {
            away.place = BOX;
        }
        return hand;
    }

    public char where(int figure) throws IndexOutOfBoundsException {
        return figureAt(figure).place;
    }

    public int onStem(char side, int place) throws IllegalArgumentException, NoSuchElementException {
        requireSide(side);
        ArrayList<Figure> stem = stage.stemOf(side);
        if (place < 0 || place >= stem.size()) {
            throw new NoSuchElementException("no figure is at this place");
        }
        return stem.get(place).number;
    }

    // Episodes

    public int episode(char kind, int minutes, int mode, boolean isSpell)
            throws IllegalArgumentException, IllegalStateException {
        if (kind != TRUNK && kind != BRANCH) {
            throw new IllegalArgumentException("there is no such kind");
        }
        requireWithin(minutes, 1, LONGEST_EPISODE);
        requireWithin(mode, 0, LAST_MODE);
        if (epic.episodes.size() >= MOST_EPISODES) {
            throw new IllegalStateException("there are 20 episodes");
        }
        Episode added = new Episode(epic.episodes.size(), kind == TRUNK, minutes, mode, isSpell);
        epic.episodes.add(added);
        return added.number;
    }

    public int before(int first, int second) throws IndexOutOfBoundsException, IllegalArgumentException,
            UnsupportedOperationException, IllegalStateException {
        Episode ahead = episodeAt(first);
        Episode behind = episodeAt(second);
        if (second <= first || (behind.ahead & ahead.bit()) != 0) {
            throw new IllegalArgumentException("the pair goes backwards, or is told");
        }
        if (behind.isBegun()) {
            throw new UnsupportedOperationException("the second episode was begun");
        }
        if (epic.pairs >= MOST_PAIRS) {
            throw new IllegalStateException("there are 40 pairs");
        }
        behind.ahead |= ahead.bit();
        epic.pairs++;
        return epic.pairs;
    }

    public int tell(int episode, char sort, int person, int fact) throws IndexOutOfBoundsException,
            IllegalArgumentException, UnsupportedOperationException, IllegalStateException {
        Episode told = episodeAt(episode);
        int whom = personAt(person).number;
        requireSort(sort);
        if (sort == NEEDS_KNOWN || sort == LEARNS) {
            requireFact(fact);
        }
        if (told.isBegun() || epic.wouldHarmTrunk(told, sort, whom)) {
            throw new UnsupportedOperationException("the episode was begun, or the line harms the trunk");
        }
        if (epic.lines >= MOST_LINES) {
            throw new IllegalStateException("there are 60 lines");
        }
        told.addLine(sort, whom, fact);
        epic.lines++;
        return epic.lines;
    }

    public char bars(int episode) throws IndexOutOfBoundsException {
        return firstBar(episodeAt(episode));
    }

    public int begin(int episode) throws IndexOutOfBoundsException, UnsupportedOperationException {
        Episode begun = episodeAt(episode);
        if (firstBar(begun) != NO_BAR) {
            throw new UnsupportedOperationException("the episode is barred");
        }
        if (begun.isSpell) {
            offerings--;
        }
        begun.endsAt = minute + begun.minutes;
        epic.current = begun;
        return begun.endsAt;
    }

    public int going() throws NoSuchElementException {
        if (epic.current == null) {
            throw new NoSuchElementException("no episode goes on");
        }
        return epic.current.number;
    }

    public boolean isPlayed(int episode) throws IndexOutOfBoundsException {
        return episodeAt(episode).played;
    }

    public int left() {
        return epic.countLeft();
    }

    public boolean isLost() {
        return epic.hasHopeless(mode, fates) || epic.minutesAhead(minute) > DAWN - minute;
    }

    public int orders() throws UnsupportedOperationException {
        if (epic.countLeft() > MOST_ORDERED) {
            throw new UnsupportedOperationException("more than 6 episodes are left");
        }
        return epic.countOrders(fates);
    }

    public int cut(int minutes) throws IllegalArgumentException, NoSuchElementException {
        requireWithin(minutes, 1, DAWN);
        int trunk = epic.trunkMinutes();
        if (trunk > minutes) {
            throw new NoSuchElementException("the trunk is longer");
        }
        return trunk + epic.branchMinutes(minutes - trunk);
    }

    // The night

    public int go(int minutes) throws IllegalArgumentException, IllegalStateException {
        requireWithin(minutes, 1, 120);
        requireAheadOfDawn(minutes);
        passMinutes(minutes);
        return minute;
    }

    public int minute() {
        return minute;
    }

    public int mode() {
        return mode;
    }

    public int nextMode() throws UnsupportedOperationException {
        if (mode == LAST_MODE || minute < MINUTES_TO_MODE * (mode + 1) || epic.current != null) {
            throw new UnsupportedOperationException("the mode can't go on");
        }
        mode++;
        music.fallSilent();
        return mode;
    }

    public int speak(int figure, int minutes) throws IndexOutOfBoundsException, IllegalArgumentException,
            UnsupportedOperationException, IllegalStateException {
        Figure spoken = figureAt(figure);
        requireWithin(minutes, 1, 20);
        Person speaker = spoken.person;
        if (!spoken.isOut() || !lives(speaker) || epic.current == null || isTooLikeLastVoice(speaker)) {
            throw new UnsupportedOperationException("the figure can't speak");
        }
        requireAheadOfDawn(minutes);
        passMinutes(minutes);
        audience.wake(speaker.isClown() && mode != LAST_MODE ? 3 : 1);
        lastSpeaker = speaker;
        lastSpeechEnd = minute;
        return audience.attention;
    }

    public int say(int figure, int fact)
            throws IndexOutOfBoundsException, IllegalArgumentException, UnsupportedOperationException {
        Figure said = figureAt(figure);
        requireFact(fact);
        Person teller = said.person;
        if (!said.isOut() || !lives(teller) || !fates.hasFact(teller.number, fact) || !mayTell(teller, fact)) {
            throw new UnsupportedOperationException("the person can't tell this");
        }
        if (teller.isClown() && fact == wishedFact) {
            wishIsMet = true;
        }
        return stage.letHear(fact, fates);
    }

    public boolean bar(int fact, boolean is) throws IllegalArgumentException {
        requireFact(fact);
        boolean wasBarred = isBarred(fact);
        barredFacts = is ? barredFacts | 1 << fact : barredFacts & ~(1 << fact);
        return wasBarred;
    }

    public int wish(int fact) throws IllegalArgumentException {
        requireFact(fact);
        int earlier = wishedFact;
        wishedFact = fact;
        wishIsMet = false;
        return earlier;
    }

    public boolean isMet() throws NoSuchElementException {
        if (wishedFact == NONE) {
            throw new NoSuchElementException("there was no wish");
        }
        return wishIsMet;
    }

    public int offer(int many) throws IllegalArgumentException, IllegalStateException {
        requireWithin(many, 1, MOST_OFFERINGS);
        if (offerings + many > MOST_OFFERINGS) {
            throw new IllegalStateException("there would be more than 9 offerings");
        }
        offerings += many;
        return offerings;
    }

    public boolean tree(boolean isUp) {
        boolean wasUp = treeIsUp;
        treeIsUp = isUp;
        return wasUp;
    }

    public char end() throws NoSuchElementException {
        if (minute != DAWN) {
            throw new NoSuchElementException("it is not dawn");
        }
        if (epic.countLeft() > 0) {
            return 't';
        }
        if (!treeIsUp) {
            return 'u';
        }
        return stage.hasHandFull() ? 'h' : 'g';
    }

    // Music and the public

    public int piece(int piece, int beats, int mode)
            throws IllegalArgumentException, UnsupportedOperationException {
        requirePiece(piece);
        requireWithin(beats, 4, 64);
        requireWithin(mode, 0, LAST_MODE);
        if (piece == music.played || piece == music.awaited) {
            throw new UnsupportedOperationException("the piece is played or asked for");
        }
        return music.describe(piece, beats, mode);
    }

    public int start(int piece) throws IllegalArgumentException, UnsupportedOperationException {
        requirePiece(piece);
        if (!music.fits(piece, mode) || music.played != NONE) {
            throw new UnsupportedOperationException("the piece can't be started");
        }
        music.strikeUp(piece);
        return music.beatsToStroke;
    }

    public int knock(int piece) throws IllegalArgumentException, UnsupportedOperationException {
        requirePiece(piece);
        if (!music.fits(piece, mode) || music.played == NONE || music.isKnockRead()) {
            throw new UnsupportedOperationException("the piece can't be asked for");
        }
        music.awaited = piece;
        music.beatsToReading = 2 * (minute / 120);
        return music.beatsToReading;
    }

    public int playing() throws NoSuchElementException {
        if (music.played == NONE) {
            throw new NoSuchElementException("no piece is played");
        }
        return music.played;
    }

    public int asked() throws NoSuchElementException {
        if (music.awaited == NONE) {
            throw new NoSuchElementException("no piece is asked for");
        }
        return music.awaited;
    }

    public int stroke() throws NoSuchElementException {
        if (music.played == NONE) {
            throw new NoSuchElementException("no piece is played");
        }
        return music.beatsToStroke;
    }

    public int crowd(int many) throws IllegalArgumentException {
        requireWithin(many, 0, 500);
        int earlier = audience.watching;
        audience.watching = many;
        return earlier;
    }

    public int attention() {
        return audience.attention;
    }

    public int asleep() {
        return audience.watching * (FULL_ATTENTION - audience.attention) / 100;
    }

    public boolean rain(boolean is) {
        boolean didRain = audience.isRaining;
        audience.isRaining = is;
        return didRain;
    }

    // Sums

    public long checksum() {
        long sum = 7;
        for (int i = 0; i < persons.size(); i++) {
            Person person = persons.get(i);
            sum = 31 * sum + (lives(person) ? 256 : 0) + fates.factsOf(person.number);
        }
        for (int i = 0; i < stage.figures.size(); i++) {
            sum = 31 * sum + stage.figures.get(i).place;
        }
        for (int i = 0; i < epic.episodes.size(); i++) {
            sum = 31 * sum + (epic.episodes.get(i).played ? 1 : 0);
        }
        return 31 * sum + minute;
    }

    public float playedShare() throws NoSuchElementException {
        int all = epic.episodes.size();
        if (all == 0) {
            throw new NoSuchElementException("there are no episodes");
        }
        return (float) epic.countPlayed() / (float) all;
    }

    public double meanLength() throws NoSuchElementException {
        int many = epic.countPlayed();
        if (many == 0) {
            throw new NoSuchElementException("no episode was played");
        }
        return (double) epic.playedMinutes() / (double) many;
    }

    public boolean isSound() {
        return epic.wasPlayedInOrder() && epic.sparesTrunk() && stage.isOrderly();
    }

    // What the calls share

    private static void requireWithin(int number, int least, int most) {
        if (number < least || number > most) {
            throw new IllegalArgumentException("a number is out of range");
        }
    }

    private static void requireFact(int fact) {
        requireWithin(fact, 0, LAST_FACT);
    }

    private static void requirePiece(int piece) {
        requireWithin(piece, 0, LAST_PIECE);
    }

    private static void requireSide(char side) {
        if (side != LEFT && side != RIGHT) {
            throw new IllegalArgumentException("there is no such side");
        }
    }

    private static void requireSort(char sort) {
        if (sort != NEEDS_ALIVE && sort != NEEDS_KNOWN && sort != DIES && sort != LEARNS) {
            throw new IllegalArgumentException("there is no such sort");
        }
    }

    private void requireAheadOfDawn(int minutes) {
        if (minute + minutes > DAWN) {
            throw new IllegalStateException("it would be behind the minute 540");
        }
    }

    private Person personAt(int number) {
        if (number < 0 || number >= persons.size()) {
            throw new IndexOutOfBoundsException("there is no such person");
        }
        return persons.get(number);
    }

    private Figure figureAt(int number) {
        if (number < 0 || number >= stage.figures.size()) {
            throw new IndexOutOfBoundsException("there is no such figure");
        }
        return stage.figures.get(number);
    }

    private Episode episodeAt(int number) {
        if (number < 0 || number >= epic.episodes.size()) {
            throw new IndexOutOfBoundsException("there is no such episode");
        }
        return epic.episodes.get(number);
    }

    private boolean lives(Person person) {
        return !fates.hasPerson(person.number);
    }

    private boolean isBarred(int fact) {
        return (barredFacts >> fact & 1) != 0;
    }

    private boolean mayTell(Person teller, int fact) {
        return teller.isClown() || !isBarred(fact);
    }

    private boolean isTooLikeLastVoice(Person speaker) {
        return lastSpeaker != null && lastSpeaker != speaker && lastSpeaker.voice == speaker.voice
                && minute - lastSpeechEnd < 3;
    }

    private char firstBar(Episode episode) {
        if (epic.current != null) {
            return 'g';
        }
        if (episode.played) {
            return 'p';
        }
        if ((episode.ahead & ~epic.playedBits()) != 0) {
            return 'b';
        }
        if (episode.mode != mode) {
            return 'm';
        }
        if (episode.needs.sharesPersons(fates)) {
            return 'a';
        }
        if (!fates.hasFactsOf(episode.needs)) {
            return 'k';
        }
        if (episode.isSpell && offerings == 0) {
            return 'o';
        }
        return minute + episode.minutes > DAWN ? 'x' : NO_BAR;
    }

    private void passMinutes(int minutes) {
        for (int i = 0; i < minutes; i++) {
            passMinute();
        }
    }

    private void passMinute() {
        minute++;
        for (int beat = 0; beat < BEATS_IN_MINUTE; beat++) {
            music.passBeat();
        }
        if (minute % 10 == 0) {
            audience.tire();
        }
        Episode current = epic.current;
        if (current != null && current.endsAt == minute) {
            current.played = true;
            epic.current = null;
            fates.addAll(current.effects);
            audience.wake(5);
        }
    }

    /** Some persons, and facts of each person. What the marks mean, the holder says. */
    private static final class Marks {
        /** So many persons have their facts, 8 bits for each, in the first of the two longs. */
        private static final int IN_FIRST = 8;

        private int persons = 0;
        private long firstFacts = 0;
        private long lastFacts = 0;

        void markPerson(int person) {
            persons |= 1 << person;
        }

        boolean hasPerson(int person) {
            return (persons >> person & 1) != 0;
        }

        void markFact(int person, int fact) {
            // A long's shift counts modulo 64, so the same words serve for either long.
            long bit = 1L << (8 * person + fact);
            if (person < IN_FIRST) {
                firstFacts |= bit;
            } else {
                lastFacts |= bit;
            }
        }

        int factsOf(int person) {
            long facts = person < IN_FIRST ? firstFacts : lastFacts;
            return (int) (facts >>> (8 * person)) & 255;
        }

        boolean hasFact(int person, int fact) {
            return (factsOf(person) >> fact & 1) != 0;
        }

        void copyFrom(Marks other) {
            persons = other.persons;
            firstFacts = other.firstFacts;
            lastFacts = other.lastFacts;
        }

        void addAll(Marks other) {
            persons |= other.persons;
            firstFacts |= other.firstFacts;
            lastFacts |= other.lastFacts;
        }

        boolean sharesPersons(Marks other) {
            return (persons & other.persons) != 0;
        }

        boolean hasFactsOf(Marks other) {
            return (other.firstFacts & ~firstFacts) == 0 && (other.lastFacts & ~lastFacts) == 0;
        }
    }

    private static final class Person {
        private final int number;
        private final int rank;
        private final int voice;
        private final char side;

        Person(int number, int rank, int voice, char side) {
            this.number = number;
            this.rank = rank;
            this.voice = voice;
            this.side = side;
        }

        boolean isClown() {
            return rank == 0;
        }
    }

    private static final class Figure {
        private final int number;
        private final Person person;
        private char place = BOX;
        /** The count of puts onto a stem as it was last put there. */
        private int turn = 0;

        Figure(int number, Person person) {
            this.number = number;
            this.person = person;
        }

        boolean isOut() {
            return place != BOX;
        }

        boolean isInHand() {
            return place != BOX && place != STEM;
        }

        boolean standsAheadOf(Figure other) {
            return person.rank > other.person.rank
                    || (person.rank == other.person.rank && turn < other.turn);
        }
    }

    /** The figures, the two hands and the two stems. */
    private static final class Stage {
        private final ArrayList<Figure> figures = new ArrayList<>();
        private final ArrayList<Figure> leftStem = new ArrayList<>();
        private final ArrayList<Figure> rightStem = new ArrayList<>();
        private int turns = 0;

        int addFigure(Person owner) {
            Figure added = new Figure(figures.size(), owner);
            figures.add(added);
            return added.number;
        }

        ArrayList<Figure> stemOf(char side) {
            return side == LEFT ? leftStem : rightStem;
        }

        int freeHand() {
            for (int hand = 0; hand < HANDS; hand++) {
                if (countInHand(hand) == 0) {
                    return hand;
                }
            }
            return NONE;
        }

        boolean hasHandFull() {
            return countInHand(0) > 0 || countInHand(1) > 0;
        }

        private int countInHand(int hand) {
            int many = 0;
            for (int i = 0; i < figures.size(); i++) {
                if (figures.get(i).place == FIRST_HAND + hand) {
                    many++;
                }
            }
            return many;
        }

        boolean hasAnotherOut(Figure figure) {
            for (int i = 0; i < figures.size(); i++) {
                Figure other = figures.get(i);
                if (other != figure && other.person == figure.person && other.isOut()) {
                    return true;
                }
            }
            return false;
        }

        void moveToHand(Figure figure, int hand) {
            leaveStem(figure);
            figure.place = (char) (FIRST_HAND + hand);
        }

        private void leaveStem(Figure figure) {
            ArrayList<Figure> stem = stemOf(figure.person.side);
            for (int i = 0; i < stem.size(); i++) {
                if (stem.get(i) == figure) {
                    stem.remove(i);
                    return;
                }
            }
        }

        void moveToStem(Figure figure) {
            turns++;
            figure.turn = turns;
            figure.place = STEM;
            ArrayList<Figure> stem = stemOf(figure.person.side);
            int place = 0;
            while (place < stem.size() && stem.get(place).standsAheadOf(figure)) {
                place++;
            }
            stem.add(place, figure);
        }

        /** Lets all who live and have a figure out know a fact, and returns for how many it is new. */
        int letHear(int fact, Marks fates) {
            int newly = 0;
            for (int i = 0; i < figures.size(); i++) {
                Figure figure = figures.get(i);
                int hearer = figure.person.number;
                if (figure.isOut() && !fates.hasPerson(hearer) && !fates.hasFact(hearer, fact)) {
                    fates.markFact(hearer, fact);
                    newly++;
                }
            }
            return newly;
        }

        boolean isOrderly() {
            for (int i = 0; i < figures.size(); i++) {
                Figure figure = figures.get(i);
                if (figure.isOut() && hasAnotherOut(figure)) {
                    return false;
                }
            }
            return countInHand(0) <= 1 && countInHand(1) <= 1 && isInOrder(leftStem) && isInOrder(rightStem);
        }

        private static boolean isInOrder(ArrayList<Figure> stem) {
            for (int i = 1; i < stem.size(); i++) {
                if (!stem.get(i - 1).standsAheadOf(stem.get(i))) {
                    return false;
                }
            }
            return true;
        }
    }

    private static final class Episode {
        private final int number;
        private final boolean isOfTrunk;
        private final int minutes;
        private final int mode;
        private final boolean isSpell;
        /** The bits of the episodes of which it was told that they must be played before this one. */
        private int ahead = 0;
        /** Who must live, and who must know what. */
        private final Marks needs = new Marks();
        /**
         * Who dies, and who learns what. The order of the effects is not kept: as the dead stay dead and can
         * learn still, each order has the same outcome.
         */
        private final Marks effects = new Marks();
        /** The minute at which it ends, or has ended, once it was begun. */
        private int endsAt = NONE;
        private boolean played = false;

        Episode(int number, boolean isOfTrunk, int minutes, int mode, boolean isSpell) {
            this.number = number;
            this.isOfTrunk = isOfTrunk;
            this.minutes = minutes;
            this.mode = mode;
            this.isSpell = isSpell;
        }

        int bit() {
            return 1 << number;
        }

        boolean isBegun() {
            return endsAt != NONE;
        }

        void addLine(char sort, int person, int fact) {
            if (sort == NEEDS_ALIVE) {
                needs.markPerson(person);
            } else if (sort == NEEDS_KNOWN) {
                needs.markFact(person, fact);
            } else if (sort == DIES) {
                effects.markPerson(person);
            } else {
                effects.markFact(person, fact);
            }
        }
    }

    /** The graph of episodes. */
    private static final class Epic {
        private final ArrayList<Episode> episodes = new ArrayList<>();
        private int pairs = 0;
        private int lines = 0;
        /** The episode that goes on, null for none. */
        private Episode current = null;
        /** Those that an order orders, used again by each count of orders. */
        private final ArrayList<Episode> ordered = new ArrayList<>();
        /** For each set of those, as bits of their places, in how many good ways it can be played first. */
        private final int[] ways = new int[1 << MOST_ORDERED];
        /** Who would be dead and know what behind such a set. */
        private final Marks assumed = new Marks();

        int playedBits() {
            int bits = 0;
            for (int i = 0; i < episodes.size(); i++) {
                Episode episode = episodes.get(i);
                if (episode.played) {
                    bits |= episode.bit();
                }
            }
            return bits;
        }

        int countPlayed() {
            return Integer.bitCount(playedBits());
        }

        int playedMinutes() {
            int sum = 0;
            for (int i = 0; i < episodes.size(); i++) {
                Episode episode = episodes.get(i);
                if (episode.played) {
                    sum += episode.minutes;
                }
            }
            return sum;
        }

        private static boolean isLeftOver(Episode episode) {
            return episode.isOfTrunk && !episode.played;
        }

        int countLeft() {
            int many = 0;
            for (int i = 0; i < episodes.size(); i++) {
                if (isLeftOver(episodes.get(i))) {
                    many++;
                }
            }
            return many;
        }

        /** Whether one that is left has a mode that is over, or needs somebody who is dead. */
        boolean hasHopeless(int mode, Marks fates) {
            for (int i = 0; i < episodes.size(); i++) {
                Episode episode = episodes.get(i);
                if (isLeftOver(episode) && (episode.mode < mode || episode.needs.sharesPersons(fates))) {
                    return true;
                }
            }
            return false;
        }

        /** The minutes of those that are left, and what is left of the one that goes on, of a branch too. */
        int minutesAhead(int minute) {
            int sum = current == null ? 0 : current.endsAt - minute;
            for (int i = 0; i < episodes.size(); i++) {
                Episode episode = episodes.get(i);
                if (isLeftOver(episode) && episode != current) {
                    sum += episode.minutes;
                }
            }
            return sum;
        }

        int trunkMinutes() {
            int sum = 0;
            for (int i = 0; i < episodes.size(); i++) {
                Episode episode = episodes.get(i);
                if (episode.played && episode.isOfTrunk) {
                    sum += episode.minutes;
                }
            }
            return sum;
        }

        /** The minutes of the played branches that fit into so many minutes, the shorter first. */
        int branchMinutes(int room) {
            int sum = 0;
            for (int length = 1; length <= LONGEST_EPISODE; length++) {
                for (int i = 0; i < episodes.size(); i++) {
                    Episode episode = episodes.get(i);
                    boolean isNext = episode.played && !episode.isOfTrunk && episode.minutes == length;
                    if (isNext && sum + length <= room) {
                        sum += length;
                    }
                }
            }
            return sum;
        }

        /** Whether the first must be played before the second, perhaps by others between. */
        private boolean mustPrecede(Episode first, Episode second) {
            int ahead = second.ahead;
            // A pair's first number is the lesser one, so one way down meets all that are between.
            for (int i = second.number - 1; i > first.number; i--) {
                if ((ahead >> i & 1) != 0) {
                    ahead |= episodes.get(i).ahead;
                }
            }
            return (ahead & first.bit()) != 0;
        }

        /** Whether by a new line somebody would die in a branch whom the trunk needs alive. */
        boolean wouldHarmTrunk(Episode told, char sort, int person) {
            for (int i = 0; i < episodes.size(); i++) {
                Episode other = episodes.get(i);
                if (sort == DIES && other.needs.hasPerson(person) && endangers(told, other)) {
                    return true;
                }
                if (sort == NEEDS_ALIVE && other.effects.hasPerson(person) && endangers(other, told)) {
                    return true;
                }
            }
            return false;
        }

        /** Whether nobody may die in the one, a branch, whom the other, of the trunk, needs alive. */
        private boolean endangers(Episode branch, Episode trunk) {
            return !branch.isOfTrunk && trunk.isOfTrunk && !mustPrecede(trunk, branch);
        }

        boolean sparesTrunk() {
            for (int i = 0; i < episodes.size(); i++) {
                for (int j = 0; j < episodes.size(); j++) {
                    Episode branch = episodes.get(i);
                    Episode trunk = episodes.get(j);
                    if (branch.effects.sharesPersons(trunk.needs) && endangers(branch, trunk)) {
                        return false;
                    }
                }
            }
            return true;
        }

        boolean wasPlayedInOrder() {
            for (int i = 0; i < episodes.size(); i++) {
                for (int j = 0; j < i; j++) {
                    Episode behind = episodes.get(i);
                    Episode ahead = episodes.get(j);
                    boolean isPair = (behind.ahead & ahead.bit()) != 0;
                    if (isPair && behind.played && !(ahead.played && ahead.endsAt < behind.endsAt)) {
                        return false;
                    }
                }
            }
            return true;
        }

        /** Counts the good orders; at most six may be left. */
        int countOrders(Marks fates) {
            gatherOrdered();
            if (ordered.size() > MOST_ORDERED) {
                return 0;
            }
            int sets = 1 << ordered.size();
            for (int set = 0; set < sets; set++) {
                ways[set] = 0;
            }
            ways[0] = 1;
            for (int set = 0; set < sets; set++) {
                if (ways[set] > 0) {
                    goOnFrom(set, fates);
                }
            }
            return ways[sets - 1];
        }

        private void gatherOrdered() {
            ordered.clear();
            for (int i = 0; i < episodes.size(); i++) {
                Episode episode = episodes.get(i);
                if (isLeftOver(episode) && episode != current) {
                    ordered.add(episode);
                }
            }
        }

        /** Adds the ways of a set to those of each set that one more good step makes of it. */
        private void goOnFrom(int set, Marks fates) {
            int done = playedBits();
            assumed.copyFrom(fates);
            if (current != null) {
                done |= current.bit();
                assumed.addAll(current.effects);
            }
            for (int i = 0; i < ordered.size(); i++) {
                if ((set >> i & 1) != 0) {
                    done |= ordered.get(i).bit();
                    assumed.addAll(ordered.get(i).effects);
                }
            }
            for (int i = 0; i < ordered.size(); i++) {
                if ((set >> i & 1) == 0 && canFollow(ordered.get(i), done)) {
                    ways[set | 1 << i] += ways[set];
                }
            }
        }

        private boolean canFollow(Episode episode, int done) {
            return (episode.ahead & ~done) == 0 && !episode.needs.sharesPersons(assumed)
                    && assumed.hasFactsOf(episode.needs);
        }
    }

    private static final class Music {
        /** The cycle of each piece in beats, 0 for one that was not told. */
        private final int[] cycles = new int[LAST_PIECE + 1];
        private final int[] modes = new int[LAST_PIECE + 1];
        private int played = NONE;
        private int beatsToStroke = 0;
        private int awaited = NONE;
        /** The beats up to the reading of the knock, 0 once it was read. */
        private int beatsToReading = 0;

        int describe(int piece, int beats, int mode) {
            int earlier = cycles[piece];
            cycles[piece] = beats;
            modes[piece] = mode;
            return earlier;
        }

        boolean fits(int piece, int mode) {
            return cycles[piece] > 0 && modes[piece] == mode;
        }

        boolean isKnockRead() {
            return awaited != NONE && beatsToReading == 0;
        }

        void strikeUp(int piece) {
            played = piece;
            beatsToStroke = cycles[piece];
        }

        void passBeat() {
            if (played == NONE) {
                return;
            }
            if (beatsToReading > 0) {
                beatsToReading--;
            }
            beatsToStroke--;
            if (beatsToStroke == 0) {
                passGreatStroke();
            }
        }

        private void passGreatStroke() {
            if (isKnockRead()) {
                strikeUp(awaited);
                awaited = NONE;
            } else {
                strikeUp(played);
            }
        }

        void fallSilent() {
            played = NONE;
            awaited = NONE;
        }
    }

    private static final class Audience {
        private int watching = 0;
        private int attention = FULL_ATTENTION;
        private boolean isRaining = false;

        void tire() {
            attention = Math.max(0, attention - (isRaining ? 2 : 1));
        }

        void wake(int more) {
            attention = Math.min(FULL_ATTENTION, attention + more);
        }
    }
}

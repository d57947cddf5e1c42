import java.util.ArrayList;
import java.util.HashSet;
import java.util.List;
import java.util.NoSuchElementException;
import java.util.Set;

/**
 * The document once more, word by word and without thrift: lines and pairs are kept as they were told, orders are
 * played one by one, beats are numbered from the night's first one. What GununganNight answers is compared with it.
 */
final class NightModel {
    private record Person(int rank, int voice, char side) {
    }

    private static final class Figure {
        private int person;
        private char place = 'b';
    }

    private record Line(int episode, char sort, int person, int fact) {
    }

    private record Pair(int first, int second) {
    }

    private static final class Episode {
        private char kind;
        private int minutes;
        private int mode;
        private boolean isSpell;
        private boolean isBegun = false;
        private boolean isPlayed = false;
        private int end = 0;
    }

    private final List<Person> persons = new ArrayList<>();
    private final List<Figure> figures = new ArrayList<>();
    /** Figures in the order in which they were put onto a stem. */
    private final List<Figure> puts = new ArrayList<>();
    private final Set<Integer> dead = new HashSet<>();
    /** Who knows what, as 100 times the person plus the fact. */
    private final Set<Integer> known = new HashSet<>();
    private final List<Episode> episodes = new ArrayList<>();
    private final List<Pair> pairs = new ArrayList<>();
    private final List<Line> lines = new ArrayList<>();
    private final Set<Integer> barred = new HashSet<>();
    private final int[] cycles = new int[8];
    private final int[] modes = new int[8];
    private int minute = 0;
    private int mode = 0;
    private int going = -1;
    private int offerings = 0;
    private boolean isTreeUp = true;
    private int wish = -1;
    private boolean isWishMet = false;
    private int speaker = -1;
    private int speechEnd = 0;
    private int playing = -1;
    private int startBeat = 0;
    private int asked = -1;
    private int knockBeat = 0;
    private int readBeat = 0;
    private int watching = 0;
    private int attention = 100;
    private boolean isRaining = false;

    private static void index(boolean is) {
        if (!is) {
            throw new IndexOutOfBoundsException();
        }
    }

    private static void argument(boolean is) {
        if (!is) {
            throw new IllegalArgumentException();
        }
    }

    private static void support(boolean is) {
        if (!is) {
            throw new UnsupportedOperationException();
        }
    }

    private static void state(boolean is) {
        if (!is) {
            throw new IllegalStateException();
        }
    }

    private static void element(boolean is) {
        if (!is) {
            throw new NoSuchElementException();
        }
    }

    private void indexPerson(int person) {
        index(0 <= person && person < persons.size());
    }

    private void indexFigure(int figure) {
        index(0 <= figure && figure < figures.size());
    }

    private void indexEpisode(int episode) {
        index(0 <= episode && episode < episodes.size());
    }

    private static void argument(int number, int least, int most) {
        argument(least <= number && number <= most);
    }

    private static boolean isHand(char place) {
        return place == '0' || place == '1';
    }

    int person(int rank, int voice, char side) {
        argument(rank, 0, 9);
        argument(voice, 0, 5);
        argument(side == 'l' || side == 'r');
        state(persons.size() < 12);
        persons.add(new Person(rank, voice, side));
        return persons.size() - 1;
    }

    int figure(int person) {
        indexPerson(person);
        state(figures.size() < 20);
        Figure figure = new Figure();
        figure.person = person;
        figures.add(figure);
        return figures.size() - 1;
    }

    boolean isAlive(int person) {
        indexPerson(person);
        return !dead.contains(person);
    }

    boolean knows(int person, int fact) {
        indexPerson(person);
        argument(fact, 0, 7);
        return known.contains(100 * person + fact);
    }

    int learn(int person, int fact) {
        indexPerson(person);
        argument(fact, 0, 7);
        known.add(100 * person + fact);
        return (int) known.stream().filter(one -> one / 100 == person).count();
    }

    int take(int figure) {
        indexFigure(figure);
        Figure taken = figures.get(figure);
        support(!isHand(taken.place));
        boolean isFree0 = figures.stream().noneMatch(one -> one.place == '0');
        boolean isFree1 = figures.stream().noneMatch(one -> one.place == '1');
        support(isFree0 || isFree1);
        support(figures.stream().noneMatch(one -> one != taken && one.person == taken.person && one.place != 'b'));
        puts.remove(taken);
        taken.place = isFree0 ? '0' : '1';
        return taken.place - '0';
    }

    private List<Figure> stem(char side) {
        List<Figure> stem = new ArrayList<>();
        for (int rank = 9; rank >= 0; rank--) {
            for (Figure figure : puts) {
                Person person = persons.get(figure.person);
                if (person.side == side && person.rank == rank) {
                    stem.add(figure);
                }
            }
        }
        return stem;
    }

    int put(int figure, boolean isStem) {
        indexFigure(figure);
        Figure away = figures.get(figure);
        support(isHand(away.place));
        support(!isStem || stem(persons.get(away.person).side).size() < 6);
        int hand = away.place - '0';
        away.place = isStem ? 's' : 'b';
        if (isStem) {
            puts.add(away);
        }
        return hand;
    }

    char where(int figure) {
        indexFigure(figure);
        return figures.get(figure).place;
    }

    int onStem(char side, int place) {
        argument(side == 'l' || side == 'r');
        List<Figure> stem = stem(side);
        element(0 <= place && place < stem.size());
        return figures.indexOf(stem.get(place));
    }

    int episode(char kind, int minutes, int mode, boolean isSpell) {
        argument(kind == 't' || kind == 'b');
        argument(minutes, 1, 60);
        argument(mode, 0, 2);
        state(episodes.size() < 20);
        Episode episode = new Episode();
        episode.kind = kind;
        episode.minutes = minutes;
        episode.mode = mode;
        episode.isSpell = isSpell;
        episodes.add(episode);
        return episodes.size() - 1;
    }

    int before(int first, int second) {
        indexEpisode(first);
        indexEpisode(second);
        argument(second > first && !pairs.contains(new Pair(first, second)));
        support(!episodes.get(second).isBegun);
        state(pairs.size() < 40);
        pairs.add(new Pair(first, second));
        return pairs.size();
    }

    private boolean mustBeBefore(int first, int second) {
        for (Pair pair : pairs) {
            if (pair.second == second && (pair.first == first || mustBeBefore(first, pair.first))) {
                return true;
            }
        }
        return false;
    }

    private boolean isDeathInBranch(Line death, Line need) {
        return death.sort == 'd' && need.sort == 'a' && death.person == need.person
                && episodes.get(death.episode).kind == 'b' && episodes.get(need.episode).kind == 't'
                && !mustBeBefore(need.episode, death.episode);
    }

    int tell(int episode, char sort, int person, int fact) {
        indexEpisode(episode);
        indexPerson(person);
        argument("akdf".indexOf(sort) >= 0);
        argument(sort == 'a' || sort == 'd' || 0 <= fact && fact <= 7);
        support(!episodes.get(episode).isBegun);
        Line line = new Line(episode, sort, person, fact);
        support(lines.stream().noneMatch(one -> isDeathInBranch(one, line) || isDeathInBranch(line, one)));
        state(lines.size() < 60);
        lines.add(line);
        return lines.size();
    }

    char bars(int episode) {
        indexEpisode(episode);
        Episode one = episodes.get(episode);
        if (going >= 0) {
            return 'g';
        }
        if (one.isPlayed) {
            return 'p';
        }
        if (pairs.stream().anyMatch(pair -> pair.second == episode && !episodes.get(pair.first).isPlayed)) {
            return 'b';
        }
        if (one.mode != mode) {
            return 'm';
        }
        if (!livesForAll(episode, dead)) {
            return 'a';
        }
        if (!isKnownForAll(episode, known)) {
            return 'k';
        }
        if (one.isSpell && offerings == 0) {
            return 'o';
        }
        return minute + one.minutes > 540 ? 'x' : '-';
    }

    private boolean livesForAll(int episode, Set<Integer> gone) {
        return lines.stream().noneMatch(
                line -> line.episode == episode && line.sort == 'a' && gone.contains(line.person));
    }

    private boolean isKnownForAll(int episode, Set<Integer> facts) {
        return lines.stream().noneMatch(line -> line.episode == episode && line.sort == 'k'
                && !facts.contains(100 * line.person + line.fact));
    }

    int begin(int episode) {
        indexEpisode(episode);
        support(bars(episode) == '-');
        Episode one = episodes.get(episode);
        offerings -= one.isSpell ? 1 : 0;
        one.isBegun = true;
        one.end = minute + one.minutes;
        going = episode;
        return one.end;
    }

    int going() {
        element(going >= 0);
        return going;
    }

    boolean isPlayed(int episode) {
        indexEpisode(episode);
        return episodes.get(episode).isPlayed;
    }

    private List<Integer> leftNumbers() {
        List<Integer> left = new ArrayList<>();
        for (int i = 0; i < episodes.size(); i++) {
            if (episodes.get(i).kind == 't' && !episodes.get(i).isPlayed) {
                left.add(i);
            }
        }
        return left;
    }

    int left() {
        return leftNumbers().size();
    }

    boolean isLost() {
        int minutes = going >= 0 ? episodes.get(going).end - minute : 0;
        for (int number : leftNumbers()) {
            Episode one = episodes.get(number);
            if (one.mode < mode || !livesForAll(number, dead)) {
                return true;
            }
            minutes += number == going ? 0 : one.minutes;
        }
        return minutes > 540 - minute;
    }

    private void takeEffect(int episode, Set<Integer> gone, Set<Integer> facts) {
        for (Line line : lines) {
            if (line.episode == episode && line.sort == 'd') {
                gone.add(line.person);
            } else if (line.episode == episode && line.sort == 'f') {
                facts.add(100 * line.person + line.fact);
            }
        }
    }

    int orders() {
        List<Integer> open = leftNumbers();
        support(open.size() <= 6);
        Set<Integer> done = new HashSet<>();
        for (int i = 0; i < episodes.size(); i++) {
            if (episodes.get(i).isPlayed) {
                done.add(i);
            }
        }
        Set<Integer> gone = new HashSet<>(dead);
        Set<Integer> facts = new HashSet<>(known);
        if (going >= 0) {
            done.add(going);
            takeEffect(going, gone, facts);
            open.remove((Integer) going);
        }
        return orders(open, done, gone, facts);
    }

    private int orders(List<Integer> open, Set<Integer> done, Set<Integer> gone, Set<Integer> facts) {
        int good = open.isEmpty() ? 1 : 0;
        for (Integer next : open) {
            boolean isReady = pairs.stream().noneMatch(pair -> pair.second == next && !done.contains(pair.first));
            if (isReady && livesForAll(next, gone) && isKnownForAll(next, facts)) {
                List<Integer> rest = new ArrayList<>(open);
                rest.remove(next);
                Set<Integer> doneThen = new HashSet<>(done);
                doneThen.add(next);
                Set<Integer> goneThen = new HashSet<>(gone);
                Set<Integer> factsThen = new HashSet<>(facts);
                takeEffect(next, goneThen, factsThen);
                good += orders(rest, doneThen, goneThen, factsThen);
            }
        }
        return good;
    }

    int cut(int minutes) {
        argument(minutes, 1, 540);
        int room = minutes;
        for (Episode one : episodes) {
            room -= one.isPlayed && one.kind == 't' ? one.minutes : 0;
        }
        element(room >= 0);
        List<Episode> branches = new ArrayList<>(episodes);
        branches.removeIf(one -> !one.isPlayed || one.kind == 't');
        branches.sort((one, other) -> one.minutes - other.minutes);
        for (Episode one : branches) {
            room -= one.minutes <= room ? one.minutes : 0;
        }
        return minutes - room;
    }

    int go(int minutes) {
        argument(minutes, 1, 120);
        state(minute + minutes <= 540);
        pass(minutes);
        return minute;
    }

    private void pass(int minutes) {
        for (int i = 0; i < minutes; i++) {
            minute++;
            for (int beat = 10 * minute - 9; beat <= 10 * minute; beat++) {
                passBeat(beat);
            }
            if (minute % 10 == 0) {
                attention = Math.max(0, attention - (isRaining ? 2 : 1));
            }
            if (going >= 0 && episodes.get(going).end == minute) {
                episodes.get(going).isPlayed = true;
                takeEffect(going, dead, known);
                going = -1;
                attention = Math.min(100, attention + 5);
            }
        }
    }

    private void passBeat(int beat) {
        boolean isStroke = playing >= 0 && (beat - startBeat) % cycles[playing] == 0;
        if (isStroke && asked >= 0 && beat > knockBeat && beat >= readBeat) {
            playing = asked;
            startBeat = beat;
            asked = -1;
        }
    }

    int minute() {
        return minute;
    }

    int mode() {
        return mode;
    }

    int nextMode() {
        support(mode < 2 && minute >= (mode == 0 ? 180 : 360) && going < 0);
        mode++;
        playing = -1;
        asked = -1;
        return mode;
    }

    int speak(int figure, int minutes) {
        indexFigure(figure);
        argument(minutes, 1, 20);
        int who = figures.get(figure).person;
        support(figures.get(figure).place != 'b' && !dead.contains(who) && going >= 0);
        support(speaker < 0 || speaker == who || persons.get(speaker).voice != persons.get(who).voice
                || minute - speechEnd >= 3);
        state(minute + minutes <= 540);
        pass(minutes);
        attention = Math.min(100, attention + (persons.get(who).rank == 0 && mode < 2 ? 3 : 1));
        speaker = who;
        speechEnd = minute;
        return attention;
    }

    int say(int figure, int fact) {
        indexFigure(figure);
        argument(fact, 0, 7);
        int who = figures.get(figure).person;
        boolean isClown = persons.get(who).rank == 0;
        support(figures.get(figure).place != 'b' && !dead.contains(who) && known.contains(100 * who + fact));
        support(isClown || !barred.contains(fact));
        int newly = 0;
        for (Figure one : figures) {
            boolean hears = one.place != 'b' && !dead.contains(one.person);
            newly += hears && known.add(100 * one.person + fact) ? 1 : 0;
        }
        isWishMet |= isClown && fact == wish;
        return newly;
    }

    boolean bar(int fact, boolean is) {
        argument(fact, 0, 7);
        return is ? !barred.add(fact) : barred.remove(fact);
    }

    int wish(int fact) {
        argument(fact, 0, 7);
        int earlier = wish;
        wish = fact;
        isWishMet = false;
        return earlier;
    }

    boolean isMet() {
        element(wish >= 0);
        return isWishMet;
    }

    int offer(int many) {
        argument(many, 1, 9);
        state(offerings + many <= 9);
        offerings += many;
        return offerings;
    }

    boolean tree(boolean isUp) {
        boolean wasUp = isTreeUp;
        isTreeUp = isUp;
        return wasUp;
    }

    char end() {
        element(minute == 540);
        if (left() > 0) {
            return 't';
        }
        if (!isTreeUp) {
            return 'u';
        }
        return figures.stream().anyMatch(one -> isHand(one.place)) ? 'h' : 'g';
    }

    int piece(int piece, int beats, int mode) {
        argument(piece, 0, 7);
        argument(beats, 4, 64);
        argument(mode, 0, 2);
        support(piece != playing && piece != asked);
        int earlier = cycles[piece];
        cycles[piece] = beats;
        modes[piece] = mode;
        return earlier;
    }

    int start(int piece) {
        argument(piece, 0, 7);
        support(cycles[piece] > 0 && modes[piece] == mode && playing < 0);
        playing = piece;
        startBeat = 10 * minute;
        return cycles[piece];
    }

    int knock(int piece) {
        argument(piece, 0, 7);
        support(cycles[piece] > 0 && modes[piece] == mode && playing >= 0);
        support(asked < 0 || readBeat > 10 * minute);
        asked = piece;
        knockBeat = 10 * minute;
        readBeat = knockBeat + 2 * (minute / 120);
        return readBeat - knockBeat;
    }

    int playing() {
        element(playing >= 0);
        return playing;
    }

    int asked() {
        element(asked >= 0);
        return asked;
    }

    int stroke() {
        element(playing >= 0);
        return cycles[playing] - (10 * minute - startBeat) % cycles[playing];
    }

    int crowd(int many) {
        argument(many, 0, 500);
        int earlier = watching;
        watching = many;
        return earlier;
    }

    int attention() {
        return attention;
    }

    int asleep() {
        return watching * (100 - attention) / 100;
    }

    boolean rain(boolean is) {
        boolean was = isRaining;
        isRaining = is;
        return was;
    }

    long checksum() {
        long sum = 7;
        for (int i = 0; i < persons.size(); i++) {
            sum = 31 * sum + (dead.contains(i) ? 0 : 256);
            for (int fact = 0; fact < 8; fact++) {
                sum += known.contains(100 * i + fact) ? 1 << fact : 0;
            }
        }
        for (Figure figure : figures) {
            sum = 31 * sum + figure.place;
        }
        for (Episode episode : episodes) {
            sum = 31 * sum + (episode.isPlayed ? 1 : 0);
        }
        return 31 * sum + minute;
    }

    float playedShare() {
        element(!episodes.isEmpty());
        return (float) episodes.stream().filter(one -> one.isPlayed).count() / (float) episodes.size();
    }

    double meanLength() {
        long many = episodes.stream().filter(one -> one.isPlayed).count();
        element(many > 0);
        int sum = episodes.stream().filter(one -> one.isPlayed).mapToInt(one -> one.minutes).sum();
        return (double) sum / (double) many;
    }

    boolean isSound() {
        return true;
    }
}

import java.util.function.Supplier;

/**
 * Asks a night for all that can be seen of it, and then plays it on, so that what is hidden shows, too: offerings,
 * barred facts, the wish, pieces, a knock, the last speech, lines and pairs. Two nights that are told from each
 * other by no call give the same text. The night is used up.
 */
final class Probe {
    private final GununganNight night;
    private final StringBuilder seen = new StringBuilder();
    private int callsLeft;

    private Probe(GununganNight night, int callsLeft) {
        this.night = night;
        this.callsLeft = callsLeft;
    }

    /** At most so many calls are made. */
    static String of(GununganNight night, int mostCalls) {
        Probe probe = new Probe(night, mostCalls);
        probe.view();
        probe.askOnce();
        probe.hear();
        probe.playOn();
        probe.toDawn();
        return probe.seen.toString();
    }

    private void ask(Supplier<Object> call) {
        ask(1, call);
    }

    private void ask(int calls, Supplier<Object> call) {
        if (callsLeft < calls) {
            return;
        }
        callsLeft -= calls;
        try {
            seen.append(call.get());
        } catch (RuntimeException e) {
            seen.append(e.getClass().getSimpleName());
        }
        seen.append(' ');
    }

    /** What calls that change nothing tell. */
    private void view() {
        ask(night::checksum);
        ask(night::minute);
        ask(night::mode);
        ask(night::attention);
        ask(night::asleep);
        ask(night::left);
        ask(night::isLost);
        ask(night::orders);
        ask(night::going);
        ask(night::playing);
        ask(night::asked);
        ask(night::stroke);
        ask(night::isMet);
        ask(night::end);
        ask(night::playedShare);
        ask(night::meanLength);
        ask(night::isSound);
        for (int place = 0; place < 6; place++) {
            int at = place;
            ask(() -> night.onStem('l', at));
            ask(() -> night.onStem('r', at));
        }
        for (int episode = 0; episode < 20; episode++) {
            int number = episode;
            ask(() -> night.bars(number));
        }
        seen.append('\n');
    }

    /** What a call tells of the state that it changes. */
    private void askOnce() {
        ask(() -> night.offer(1));
        ask(() -> night.wish(0));
        ask(() -> night.tree(true));
        ask(() -> night.rain(true));
        ask(() -> night.crowd(100));
        ask(() -> night.tell(0, 'f', 0, 0));
        ask(() -> night.before(0, 1));
        ask(() -> night.person(4, 4, 'l'));
        ask(() -> night.figure(0));
        ask(() -> night.episode('b', 1, 0, false));
        seen.append('\n');
    }

    /** Lets each figure speak and tell, with an episode that goes on. */
    private void hear() {
        for (int episode = 0; episode < 20; episode++) {
            int number = episode;
            ask(() -> night.begin(number));
        }
        for (int figure = 0; figure < 20; figure++) {
            int number = figure;
            ask(() -> night.speak(number, 1));
            ask(() -> night.take(number));
            ask(() -> night.say(number, 0));
            ask(() -> night.put(number, true));
        }
        for (int fact = 0; fact < 8; fact++) {
            int number = fact;
            ask(() -> night.bar(number, true));
        }
        for (int piece = 0; piece < 8; piece++) {
            int number = piece;
            ask(() -> night.knock(number));
        }
        seen.append('\n');
    }

    /** Plays each episode that is not barred. */
    private void playOn() {
        ask(() -> night.go(1));
        view();
        ask(() -> night.go(60));
        for (int episode = 0; episode < 20; episode++) {
            int number = episode;
            ask(3, () -> night.go(night.begin(number) - night.minute()));
        }
        view();
    }

    private void toDawn() {
        for (int i = 0; i < 4; i++) {
            ask(() -> night.go(120));
        }
        for (int mode = 0; mode < 3; mode++) {
            for (int piece = 0; piece < 8; piece++) {
                int number = piece;
                ask(() -> night.start(number));
                ask(() -> night.knock(number));
            }
            ask(night::nextMode);
        }
        ask(2, () -> night.go(540 - night.minute()));
        for (int piece = 0; piece < 8; piece++) {
            int number = piece;
            ask(() -> night.piece(number, 4, 0));
        }
        view();
    }
}

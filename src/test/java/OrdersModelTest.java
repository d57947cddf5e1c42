import java.util.ArrayList;
import java.util.List;
import java.util.Random;

/**
 * Compares orders() with a count that plays each order on an object of its own. As all episodes are of the mode 0,
 * short and no spells, an order is good if no begin is refused.
 */
public final class OrdersModelTest {
    private static final int CASES = 400;

    /** A call that was not refused, to be made again on another object. */
    private interface Call {
        void on(GununganNight night);
    }

    public static void main(String[] args) {
        int many = 0;
        for (int seed = 0; seed < CASES; seed++) {
            Random random = new Random(seed);
            List<Call> calls = new ArrayList<>();
            GununganNight night = someNight(random, calls);
            int got = night.orders();
            int due = playAll(night, calls);
            Script.note(got == due, "seed " + seed + ": orders() answered " + got + ", due is " + due);
            many += due > 1 ? 1 : 0;
        }
        Script.note(many > CASES / 10, "only " + many + " cases have more than one order");
        Script.close("OrdersModelTest");
    }

    private static GununganNight someNight(Random random, List<Call> calls) {
        GununganNight night = new GununganNight();
        for (int i = 0; i < 10; i++) {
            attempt(night, calls, x -> x.person(1, 1, 'l'));
        }
        int episodes = 2 + random.nextInt(7);
        for (int i = 0; i < episodes; i++) {
            char kind = random.nextInt(4) == 0 || night.left() == 6 ? 'b' : 't';
            attempt(night, calls, x -> x.episode(kind, 2, 0, false));
        }
        int lines = random.nextInt(12);
        for (int i = 0; i < lines; i++) {
            int episode = random.nextInt(episodes);
            int person = 6 + random.nextInt(4);
            int fact = random.nextInt(2);
            char sort = "akdff".charAt(random.nextInt(5));
            attempt(night, calls, x -> x.tell(episode, sort, person, fact));
        }
        int pairs = random.nextInt(4);
        for (int i = 0; i < pairs; i++) {
            int first = random.nextInt(episodes);
            int second = random.nextInt(episodes);
            attempt(night, calls, x -> x.before(first, second));
        }
        int played = random.nextInt(4);
        for (int i = 0; i < played; i++) {
            int episode = random.nextInt(episodes);
            int minutes = 1 + random.nextInt(2);
            attempt(night, calls, x -> x.begin(episode));
            attempt(night, calls, x -> x.go(minutes));
        }
        return night;
    }

    private static void attempt(GununganNight night, List<Call> calls, Call call) {
        try {
            call.on(night);
            calls.add(call);
        } catch (RuntimeException e) {
            // What is refused here is left out of the night.
        }
    }

    private static int playAll(GununganNight night, List<Call> calls) {
        List<Integer> open = new ArrayList<>();
        int current = currentOf(night);
        for (int i = 0; isEpisode(night, i); i++) {
            if (i != current && !night.isPlayed(i) && isOfTrunk(calls, i)) {
                open.add(i);
            }
        }
        return playOrders(calls, open, new ArrayList<>());
    }

    private static int playOrders(List<Call> calls, List<Integer> open, List<Integer> order) {
        if (order.size() == open.size()) {
            return 1;
        }
        int good = 0;
        for (int next : open) {
            if (!order.contains(next)) {
                order.add(next);
                good += isPlayable(calls, order) ? playOrders(calls, open, order) : 0;
                order.remove(order.size() - 1);
            }
        }
        return good;
    }

    private static boolean isPlayable(List<Call> calls, List<Integer> order) {
        GununganNight night = new GununganNight();
        calls.forEach(call -> call.on(night));
        while (currentOf(night) >= 0) {
            night.go(1);
        }
        for (int episode : order) {
            if (night.bars(episode) != '-') {
                return false;
            }
            night.begin(episode);
            night.go(2);
        }
        return true;
    }

    private static int currentOf(GununganNight night) {
        try {
            return night.going();
        } catch (RuntimeException e) {
            return -1;
        }
    }

    private static boolean isEpisode(GununganNight night, int number) {
        try {
            night.bars(number);
            return true;
        } catch (RuntimeException e) {
            return false;
        }
    }

    /** An episode is of the trunk if it is left in a night of the same episodes, of which none was begun. */
    private static boolean isOfTrunk(List<Call> calls, int number) {
        GununganNight night = new GununganNight();
        int leftBefore = 0;
        for (Call call : calls) {
            if (isEpisode(night, number)) {
                break;
            }
            leftBefore = night.left();
            call.on(night);
        }
        return night.left() > leftBefore;
    }
}

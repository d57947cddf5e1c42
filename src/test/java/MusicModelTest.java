import java.util.Random;

/** Compares the music with a model that counts the beats of the whole night and knows no state but times. */
public final class MusicModelTest {
    private static final int CASES = 300;

    public static void main(String[] args) {
        for (int seed = 0; seed < CASES; seed++) {
            new MusicModelTest().play(seed);
        }
        Script.close("MusicModelTest");
    }

    private final GununganNight night = new GununganNight();
    private final int[] cycles = new int[8];
    private long began = 0;
    private int played = -1;
    private int awaited = -1;
    private long knockedAt = 0;
    private long readAt = 0;

    private void play(int seed) {
        Random random = new Random(seed);
        for (int piece = 0; piece < 8; piece++) {
            cycles[piece] = 4 + random.nextInt(61);
            night.piece(piece, cycles[piece], 0);
        }
        night.go(1 + random.nextInt(120));
        played = random.nextInt(8);
        began = beat();
        night.start(played);
        while (night.minute() < 530) {
            if (random.nextBoolean()) {
                knock(seed, random.nextInt(8));
            } else {
                night.go(1 + random.nextInt(random.nextInt(4) == 0 ? 10 : 3));
                catchUp();
            }
            compare(seed);
        }
    }

    private long beat() {
        return 10L * night.minute();
    }

    private void knock(int seed, int piece) {
        boolean isRefused = awaited >= 0 && beat() >= readAt;
        String got = Script.answerOf(night, Script.methodNamed("knock"), piece);
        int delay = 2 * (night.minute() / 120);
        String due = isRefused ? "throws.UnsupportedOperationException" : String.valueOf(delay);
        Script.note(got.equals(due), "seed " + seed + ": knock answered " + got + ", due is " + due);
        if (!isRefused) {
            awaited = piece;
            knockedAt = beat();
            readAt = knockedAt + delay;
        }
    }

    private void catchUp() {
        while (began + cycles[played] <= beat()) {
            began += cycles[played];
            if (awaited >= 0 && began > knockedAt && began >= readAt) {
                played = awaited;
                awaited = -1;
            }
        }
    }

    private void compare(int seed) {
        String where = "seed " + seed + ", minute " + night.minute() + ": ";
        Script.note(night.playing() == played, where + "playing() answered " + night.playing());
        long stroke = began + cycles[played] - beat();
        Script.note(night.stroke() == stroke, where + "stroke() answered " + night.stroke() + ", due is " + stroke);
        String due = awaited < 0 ? "throws.NoSuchElementException" : String.valueOf(awaited);
        String got = Script.answerOf(night, Script.methodNamed("asked"));
        Script.note(got.equals(due), where + "asked() answered " + got + ", due is " + due);
    }
}

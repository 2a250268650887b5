import java.util.Arrays;
import java.util.Map;
import java.util.TreeMap;

/** Runs of 512 calls, drawn by a fixed rule, each answer compared with the plain model's. */
public final class RandomRunsTest {
    private static final int RUNS = 400;
    /** The last runs tell as much as can be told ahead of all else. */
    private static final int FULL_RUNS = 40;
    private static final int CALLS = 512;
    private static final String[] FILLING = {"frame", "pass", "flare", "frame", "pass", "flare", "frame", "pass", "cross"};
    private static final int FILLING_CALLS = 6 + 5 + 20 * FILLING.length;
    /** Calls by name, each as often as its weight; the first ones set a run up. */
    private static final String[] NAMES = {"mass", "two", "source", "flare", "cross", "season", "cloud", "world",
        "frame", "pass", "book", "vote", "day", "from", "images", "imagesAnew", "imageOf", "hits", "lost", "delay",
        "light", "frames", "seen", "measured", "booked", "isFresh", "dispute"};
    private static final String I = Check.INDEX;
    private static final String A = Check.ARGUMENT;
    private static final String S = Check.STATE;
    /** What each of them can throw. */
    private static final String[] EXCEPTIONS = {A + " " + S, I + " " + A + " " + S, A + " " + S, I + " " + A + " " + S,
        I + " " + A + " " + S, A, A, A + " " + S, S, A + " " + S, I + " " + A, I, "", A, I, I, I + " " + A, A, "", I, I, "",
        I + " " + A, I + " " + A, I + " " + S, I + " " + S, S};
    private static final int[] WEIGHTS = {2, 3, 4, 12, 8, 1, 2, 3, 60, 60, 10, 3, 1, 6, 2, 2, 16, 5, 1, 10, 14, 1, 14, 20,
        4, 4, 4};

    private final int run;
    private final Delaylens program = new Delaylens();
    private final PlainModel model = new PlainModel();
    private long seed;

    public static void main(String[] args) {
        Map<String, Integer> outcomes = new TreeMap<>();
        for (int run = 0; run < RUNS; run++) {
            new RandomRunsTest(run).call(outcomes);
        }
        for (int i = 0; i < NAMES.length; i++) {
            often(outcomes, NAMES[i] + " answers");
            for (String exception : EXCEPTIONS[i].split(" ")) {
                often(outcomes, NAMES[i] + " " + exception);
            }
        }
        Check.end();
    }

    /** The runs are worth little if they do not come to all that a call can do. */
    private static void often(Map<String, Integer> outcomes, String outcome) {
        Check.report("often: " + outcome, "true", "" + (outcome.endsWith(" ") || outcomes.getOrDefault(outcome, 0) >= 10));
    }

    private RandomRunsTest(int run) {
        this.run = run;
        seed = 88172645463325252L + run * 7919L;
    }

    private void call(Map<String, Integer> outcomes) {
        for (int i = 0; i < CALLS; i++) {
            String name = nameOf(i);
            int[] a = arguments(name);
            String want = Check.outcome(() -> model.call(name, a));
            String got = Check.outcome(() -> call(program, name, a));
            outcomes.merge(name + " " + (got.endsWith("Exception") ? got : "answers"), 1, Integer::sum);
            Check.report("run " + run + ", call " + i + ": " + name + Arrays.toString(a), want, got);
        }
    }

    private String nameOf(int call) {
        if (run >= RUNS - FULL_RUNS && call < FILLING_CALLS) {
            return call < 6 ? "mass" : call < 11 ? "source" : FILLING[(call - 11) % FILLING.length];
        }
        return NAMES[call < 8 ? (call % 2 == 0 ? draw(0, 1) * 2 : 2) : drawName()];
    }

    private int drawName() {
        int sum = 0;
        for (int w : WEIGHTS) {
            sum += w;
        }
        int left = draw(0, sum - 1);
        for (int i = 0; i < WEIGHTS.length; i++) {
            left -= WEIGHTS[i];
            if (left < 0) {
                // In most runs masses are left alone after the beginning, so that frames are not gone at once.
                return i < 2 && (run % 4 != 0 && draw(0, 9) != 0 || run >= RUNS - FULL_RUNS) ? 9 : i;
            }
        }
        return 0;
    }

    private int draw(int least, int most) {
        seed ^= seed << 13;
        seed ^= seed >>> 7;
        seed ^= seed << 17;
        return least + (int) Math.floorMod(seed >>> 11, (long) (most - least + 1));
    }

    /** Mostly in range, at times right beside it or far off. */
    private int about(int least, int most) {
        int odd = draw(0, 99);
        if (odd < 2) {
            return draw(0, 1) == 0 ? least - 1 : most + 1;
        }
        if (odd == 2) {
            return draw(0, 1) == 0 ? Integer.MIN_VALUE : Integer.MAX_VALUE;
        }
        return odd < 8 ? (draw(0, 1) == 0 ? least : most) : draw(least, most);
    }

    private int cell() {
        return draw(0, 2) == 0 ? about(-10, 10) : about(-4, 4);
    }

    /** A source, mostly one that is there. */
    private int number() {
        return draw(0, 1) == 0 ? 0 : about(0, Math.max(0, model.sourceCount() - 1));
    }

    /** An image of a source, mostly one that is there, and often one that is in frames. */
    private int rank(int source) {
        int last = Math.max(0, model.imageCount(source) - 1);
        return draw(0, 4) == 0 ? about(0, last) : about(0, Math.min(last, 3));
    }

    /** The number of a source with one image of it, or with two. */
    private int[] ofImages(int images, int... more) {
        int[] a = new int[1 + images + more.length];
        a[0] = number();
        for (int i = 1; i <= images; i++) {
            a[i] = rank(a[0]);
            // Two that are the same are mostly drawn once more.
            a[i] = i == 2 && a[2] == a[1] && draw(0, 9) != 0 ? rank(a[0]) : a[i];
        }
        System.arraycopy(more, 0, a, 1 + images, more.length);
        return a;
    }

    private int[] sourceCell() {
        int[][] cells = new int[draw(1, 5)][];
        for (int i = 0; i < cells.length; i++) {
            cells[i] = new int[] {cell(), cell()};
        }
        return model.brightest(cells);
    }

    private int[] arguments(String name) {
        switch (name) {
            case "mass": return new int[] {about(0, 2), cell(), cell(), about(1, 8)};
            case "two": return new int[] {about(0, Math.max(0, model.massCount() - 1)), cell(), cell()};
            case "source":
                int[] at = sourceCell();
                return new int[] {at[0], at[1], about(1, 100)};
            case "flare": return new int[] {number(), about(-100, 100)};
            case "cross": return ofImages(1, draw(0, 1) == 0 ? about(1, 5) : about(1, 50), about(1, 1000));
            case "season": return new int[] {about(0, 20), about(20, 99)};
            case "cloud": return new int[] {draw(0, 3) == 0 ? about(0, 50) : about(0, 3)};
            case "world": return new int[] {about(40, 100)};
            case "pass": return new int[] {draw(0, 15) == 0 || run % 8 == 5 ? about(1, 100) : about(1, 3)};
            case "book":
                int[] of = ofImages(2);
                return new int[] {about(0, 1), of[0], of[1], of[2]};
            case "vote": return new int[] {about(0, 4), draw(0, 1)};
            case "from": return new int[] {about(-10, 10), about(-10, 10), draw(0, 1)};
            case "images":
            case "imagesAnew": return new int[] {number()};
            case "imageOf": return ofImages(1, about(0, 4));
            case "hits": return new int[] {about(-10, 10), cell()};
            case "delay":
            case "measured": return ofImages(2);
            case "light": return ofImages(1);
            case "seen": return new int[] {draw(0, 1) == 0 ? about(0, 5) : about(0, 60), number(), about(0, 5)};
            case "booked":
            case "isFresh": return new int[] {about(0, 1)};
            default: return new int[0];
        }
    }

    private static long call(Delaylens x, String name, int[] a) {
        switch (name) {
            case "mass": return x.mass(a[0], a[1], a[2], a[3]);
            case "two": return x.two(a[0], a[1], a[2]);
            case "source": return x.source(a[0], a[1], a[2]);
            case "flare": return x.flare(a[0], a[1]);
            case "cross":
                x.cross(a[0], a[1], a[2], a[3]);
                return 0;
            case "season":
                x.season(a[0], a[1]);
                return 0;
            case "cloud": return x.cloud(a[0]);
            case "world": return x.world(a[0]);
            case "frame": return x.frame();
            case "pass": return x.pass(a[0]);
            case "book": return x.book(a[0], a[1], a[2], a[3]);
            case "vote": return x.vote(a[0], a[1] != 0) ? 1 : 0;
            default: return asked(x, name, a);
        }
    }

    private static long asked(Delaylens x, String name, int[] a) {
        switch (name) {
            case "day": return x.day();
            case "from": return x.from(a[0], a[1], a[2] != 0);
            case "images": return x.images(a[0]);
            case "imagesAnew": return x.imagesAnew(a[0]);
            case "imageOf": return x.imageOf(a[0], a[1], a[2]);
            case "hits": return x.hits(a[0], a[1]);
            case "lost": return x.lost();
            case "delay": return x.delay(a[0], a[1], a[2]);
            case "light": return x.light(a[0], a[1]);
            case "frames": return x.frames();
            case "seen": return x.seen(a[0], a[1], a[2]);
            case "measured": return x.measured(a[0], a[1], a[2]);
            case "booked": return x.booked(a[0]);
            case "isFresh": return x.isFresh(a[0]) ? 1 : 0;
            case "dispute": return x.dispute();
            default: throw new AssertionError(name);
        }
    }
}

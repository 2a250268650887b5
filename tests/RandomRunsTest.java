import java.util.Arrays;

/** Runs of 512 calls, drawn by a fixed rule, each answer compared with the plain model's. */
public final class RandomRunsTest {
    private static final int RUNS = 400;
    private static final int CALLS = 512;
    /** Calls by name, each as often as its weight; the first ones set a run up. */
    private static final String[] NAMES = {"mass", "two", "source", "flare", "cross", "season", "cloud", "world",
        "frame", "pass", "book", "vote", "day", "from", "images", "imagesAnew", "imageOf", "hits", "lost", "delay",
        "light", "frames", "seen", "measured", "booked", "isFresh", "dispute"};
    private static final int[] WEIGHTS = {2, 1, 4, 12, 8, 1, 1, 3, 60, 60, 10, 3, 1, 6, 2, 2, 16, 5, 1, 10, 14, 1, 14, 20,
        4, 4, 4};

    private long seed;

    public static void main(String[] args) {
        int[] answered = new int[NAMES.length];
        for (int run = 0; run < RUNS; run++) {
            new RandomRunsTest(run).run(run, answered);
        }
        for (int i = 0; i < NAMES.length; i++) {
            Check.report(NAMES[i] + " answers often, and not always throws", "true", "" + (answered[i] >= 20));
        }
        Check.end();
    }

    private RandomRunsTest(int run) {
        seed = 88172645463325252L + run * 7919L;
    }

    private void run(int run, int[] answered) {
        Delaylens program = new Delaylens();
        PlainModel model = new PlainModel();
        for (int i = 0; i < CALLS; i++) {
            int which = i < 8 ? (i % 2 == 0 ? draw(0, 1) * 2 : 2) : drawName(run);
            int[] a = arguments(NAMES[which]);
            String want = Check.outcome(() -> model.call(NAMES[which], a));
            String got = Check.outcome(() -> call(program, NAMES[which], a));
            answered[which] += got.endsWith("Exception") ? 0 : 1;
            Check.report("run " + run + ", call " + i + ": " + NAMES[which] + Arrays.toString(a), want, got);
        }
    }

    private int drawName(int run) {
        int sum = 0;
        for (int w : WEIGHTS) {
            sum += w;
        }
        int left = draw(0, sum - 1);
        for (int i = 0; i < WEIGHTS.length; i++) {
            left -= WEIGHTS[i];
            if (left < 0) {
                // In most runs masses are left alone after the beginning, so that frames are not gone at once.
                return i < 2 && run % 4 != 0 && draw(0, 9) != 0 ? 9 : i;
            }
        }
        return 0;
    }

    private int draw(int least, int most) {
        seed ^= seed << 13;
        seed ^= seed >>> 7;
        seed ^= seed << 17;
        return least + (int) Math.floorMod(seed >>> 11, (long) (most - least + 1));
    }

    /** Mostly in range, at times right beside it or far off. */
    private int about(int least, int most) {
        int odd = draw(0, 99);
        if (odd < 2) {
            return draw(0, 1) == 0 ? least - 1 : most + 1;
        }
        if (odd == 2) {
            return draw(0, 1) == 0 ? Integer.MIN_VALUE : Integer.MAX_VALUE;
        }
        return odd < 8 ? (draw(0, 1) == 0 ? least : most) : draw(least, most);
    }

    private int cell() {
        return draw(0, 2) == 0 ? about(-10, 10) : about(-4, 4);
    }

    private int rank() {
        return draw(0, 4) == 0 ? about(0, 20) : about(0, 3);
    }

    private int number() {
        return draw(0, 1) == 0 ? 0 : about(0, 4);
    }

    private int[] arguments(String name) {
        switch (name) {
            case "mass": return new int[] {about(0, 2), cell(), cell(), about(1, 8)};
            case "two": return new int[] {about(0, 5), cell(), cell()};
            case "source": return new int[] {cell(), cell(), about(1, 100)};
            case "flare": return new int[] {number(), about(-100, 100)};
            case "cross": return new int[] {number(), rank(), draw(0, 1) == 0 ? about(1, 5) : about(1, 50), about(1, 1000)};
            case "season": return new int[] {about(0, 20), about(20, 99)};
            case "cloud": return new int[] {draw(0, 3) == 0 ? about(0, 50) : about(0, 3)};
            case "world": return new int[] {about(40, 100)};
            case "pass": return new int[] {draw(0, 15) == 0 ? about(1, 100) : about(1, 3)};
            case "book": return new int[] {about(0, 1), number(), rank(), rank()};
            case "vote": return new int[] {about(0, 4), draw(0, 1)};
            case "from": return new int[] {about(-10, 10), about(-10, 10), draw(0, 1)};
            case "images":
            case "imagesAnew": return new int[] {number()};
            case "imageOf": return new int[] {number(), rank(), about(0, 4)};
            case "hits": return new int[] {about(-10, 10), cell()};
            case "delay":
            case "measured": return new int[] {number(), rank(), rank()};
            case "light": return new int[] {number(), rank()};
            case "seen": return new int[] {draw(0, 1) == 0 ? about(0, 5) : about(0, 60), number(), about(0, 5)};
            case "booked":
            case "isFresh": return new int[] {about(0, 1)};
            default: return new int[0];
        }
    }

    private static long call(Delaylens x, String name, int[] a) {
        switch (name) {
            case "mass": return x.mass(a[0], a[1], a[2], a[3]);
            case "two": return x.two(a[0], a[1], a[2]);
            case "source": return x.source(a[0], a[1], a[2]);
            case "flare": return x.flare(a[0], a[1]);
            case "cross":
                x.cross(a[0], a[1], a[2], a[3]);
                return 0;
            case "season":
                x.season(a[0], a[1]);
                return 0;
            case "cloud": return x.cloud(a[0]);
            case "world": return x.world(a[0]);
            case "frame": return x.frame();
            case "pass": return x.pass(a[0]);
            case "book": return x.book(a[0], a[1], a[2], a[3]);
            case "vote": return x.vote(a[0], a[1] != 0) ? 1 : 0;
            default: return asked(x, name, a);
        }
    }

    private static long asked(Delaylens x, String name, int[] a) {
        switch (name) {
            case "day": return x.day();
            case "from": return x.from(a[0], a[1], a[2] != 0);
            case "images": return x.images(a[0]);
            case "imagesAnew": return x.imagesAnew(a[0]);
            case "imageOf": return x.imageOf(a[0], a[1], a[2]);
            case "hits": return x.hits(a[0], a[1]);
            case "lost": return x.lost();
            case "delay": return x.delay(a[0], a[1], a[2]);
            case "light": return x.light(a[0], a[1]);
            case "frames": return x.frames();
            case "seen": return x.seen(a[0], a[1], a[2]);
            case "measured": return x.measured(a[0], a[1], a[2]);
            case "booked": return x.booked(a[0]);
            case "isFresh": return x.isFresh(a[0]) ? 1 : 0;
            case "dispute": return x.dispute();
            default: throw new AssertionError(name);
        }
    }
}

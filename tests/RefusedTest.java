import java.util.ArrayList;
import java.util.List;

/**
 * "A call of a method that throws an exception changes nothing." Of two objects that were told the same, one
 * is refused a call; then both are looked into by the same calls, and must answer alike. No look takes
 * more calls than an object has left.
 */
public final class RefusedTest {
    private static final int LOW = Integer.MIN_VALUE;
    private static final int HIGH = Integer.MAX_VALUE;

    private interface Made {
        Delaylens anew();
    }

    private interface Refused {
        long call(Delaylens x);
    }

    /** Collects what an object answers. */
    private static final class Look {
        private final List<String> answers = new ArrayList<>();

        void at(String what, Check.Call call) {
            answers.add(what + ": " + Check.outcome(call));
        }
    }

    private interface Looker {
        void look(Delaylens x, Look found);
    }

    private static final Looker[] LOOKERS = {
        RefusedTest::asked, RefusedTest::seen, RefusedTest::days, RefusedTest::seasons, RefusedTest::room, RefusedTest::books,
    };

    public static void main(String[] args) {
        outOfRange(RefusedTest::rich);
        outOfRange(RefusedTest::full);
        noSuch(RefusedTest::rich);
        noSuch(RefusedTest::full);
        nothingThere();
        asTold();
        Check.end();
    }

    private static void refused(String what, String exception, Made made, Refused refused) {
        for (Looker looker : LOOKERS) {
            Delaylens one = made.anew();
            Check.thrown(what, exception, () -> refused.call(one));
            Check.report(what + " changes nothing", found(looker, made.anew()), found(looker, one));
        }
    }

    private static String found(Looker looker, Delaylens x) {
        Look found = new Look();
        looker.look(x, found);
        return String.join("\n", found.answers);
    }

    // What is told so that there is something to be changed.

    /** Of all that can be told some, and room for more: it is day 12, and a frame was taken today. */
    private static Delaylens rich() {
        Delaylens x = new Delaylens();
        x.mass(Delaylens.HALO, 0, 0, 3);
        x.mass(Delaylens.STAR, 9, 9, 1);
        x.source(2, 0, 50);
        x.source(-4, 5, 20);
        x.source(0, 0, 7);
        x.world(55);
        x.season(2, 30);
        x.pass(2);
        for (int i = 0; i < 11; i++) {
            if (i % 4 == 0) {
                x.cross(0, 0, 1 + i, 240);
                x.cross(0, 1, 2, 24 * i + 1);
                x.flare(i % 3, 10 - 2 * i);
            }
            x.frame();
            if (i < 10) {
                x.pass(1);
            }
        }
        x.cross(1, 0, 20, 1000);
        x.book(0, 0, 0, 1);
        x.vote(1, true);
        x.vote(4, true);
        return x;
    }

    /** Of all that can be told as much as can be: it is day 61, cloudy to day 63, and the last frame was taken on day 59. */
    private static Delaylens full() {
        Delaylens x = new Delaylens();
        int[][] masses = {{0, -6, -6, 8}, {0, 6, 6, 7}, {1, 0, 0, 2}, {0, 6, -6, 5}, {2, 0, 0, 1}, {1, -6, 6, 3}};
        for (int[] m : masses) {
            x.mass(m[0], m[1], m[2], m[3]);
        }
        int[][] cells = {{0, -1}, {0, 0}, {1, -2}, {2, -3}, {-1, 0}};
        for (int[] c : cells) {
            x.source(c[0], c[1], 30 + c[0]);
        }
        for (int i = 0; i < 40; i++) {
            x.flare(i % 5, i % 2 == 0 ? i : -i);
        }
        for (int i = 0; i < 60; i++) {
            if (i % 3 == 0) {
                x.cross(i % 5, i % 7, i % 50 + 1, 100 + i);
            }
            x.frame();
            x.pass(i < 59 ? 1 : 2);
        }
        x.cloud(3);
        x.book(0, 0, 0, 1);
        return x;
    }

    // How objects are looked into.

    private static void asked(Delaylens x, Look found) {
        found.at("day", () -> x.day());
        found.at("frames", () -> x.frames());
        found.at("lost", () -> x.lost());
        found.at("booked", () -> x.booked(0));
        found.at("booked", () -> x.booked(1));
        found.at("isFresh", () -> x.isFresh(0) ? 1 : 0);
        found.at("isFresh", () -> x.isFresh(1) ? 1 : 0);
        found.at("dispute", () -> x.dispute());
        for (int i = 0; i < 5; i++) {
            int source = i;
            found.at("images of " + i, () -> x.images(source));
            found.at("images anew of " + i, () -> x.imagesAnew(source));
            for (int j = 0; j < 4; j++) {
                int rank = j;
                found.at("light of " + i + ", " + j, () -> x.light(source, rank));
                found.at("column of " + i + ", " + j, () -> x.imageOf(source, rank, 0));
                found.at("way of " + i + ", " + j, () -> x.imageOf(source, rank, 3));
                found.at("delay of " + i + ", " + j, () -> x.delay(source, 0, rank));
            }
        }
        for (int i = -10; i <= 10; i++) {
            int at = i;
            found.at("from " + i, () -> x.from(at, -at / 2, false));
            found.at("from " + i, () -> x.from(at / 2, at, true));
            found.at("hits " + i, () -> x.hits(at, at / 3));
        }
    }

    private static void seen(Delaylens x, Look found) {
        for (int i = 0; i < 12; i++) {
            for (int j = 0; j < 3; j++) {
                int frame = i;
                int source = j;
                found.at("seen " + i + ", " + j, () -> x.seen(frame, source, 0));
                found.at("seen " + i + ", " + j, () -> x.seen(frame, source, 1));
            }
        }
        for (int i = 0; i < 25; i++) {
            int rank = i % 5;
            int other = i / 5;
            found.at("measured " + rank + ", " + other, () -> x.measured(0, rank, other));
            found.at("measured " + rank + ", " + other, () -> x.measured(2, rank, other));
        }
        found.at("seen at the end", () -> x.seen(59, 4, 0));
    }

    private static void days(Delaylens x, Look found) {
        for (int i = 0; i < 40; i++) {
            found.at("frame", () -> x.frame());
            for (int j = 0; j < 3; j++) {
                int source = j;
                found.at("light", () -> x.light(source, 0));
            }
            found.at("light of the second", () -> x.light(0, 1));
            found.at("day", () -> x.pass(1));
        }
    }

    private static void seasons(Delaylens x, Look found) {
        for (int i = 0; i < 105; i++) {
            found.at("day", () -> x.pass(1));
            found.at("frame", () -> x.frame());
        }
        for (int i = 0; i < 25; i++) {
            found.at("day", () -> x.pass(100));
        }
    }

    private static void room(Delaylens x, Look found) {
        for (int i = 0; i < 21; i++) {
            found.at("cross", () -> Check.done(() -> x.cross(0, 0, 3, 30)));
        }
        for (int i = 0; i < 41; i++) {
            int source = i % 3;
            found.at("flare", () -> x.flare(source, 1));
        }
        for (int i = 0; i < 6; i++) {
            int column = i;
            found.at("source", () -> x.source(column - 8, 8, 8));
        }
        found.at("growth with frames", () -> x.world(99));
        for (int i = 0; i < 7; i++) {
            int mass = i;
            found.at("two", () -> x.two(mass % 2, mass, 3));
            found.at("from", () -> x.from(mass, 4, false));
        }
        for (int i = 0; i < 5; i++) {
            found.at("mass", () -> x.mass(0, 7, 7, 1));
        }
        found.at("growth without frames", () -> x.world(41));
        found.at("growth then", () -> x.world(42));
    }

    private static void books(Delaylens x, Look found) {
        for (int i = 0; i < 5; i++) {
            int mind = i;
            found.at("vote", () -> x.vote(mind, mind == 0) ? 1 : 0);
            found.at("vote", () -> x.vote(mind, true) ? 1 : 0);
            found.at("dispute", () -> x.dispute());
            found.at("booked", () -> x.booked(0));
            found.at("booked", () -> x.booked(1));
        }
        for (int i = 0; i < 4; i++) {
            int house = i % 2;
            found.at("isFresh", () -> x.isFresh(house) ? 1 : 0);
            found.at("book", () -> x.book(house, 0, 0, 1));
            found.at("booked", () -> x.booked(house));
            found.at("dispute", () -> x.dispute());
        }
    }

    // Calls that are refused.

    private static void outOfRange(Made made) {
        for (int wrong : new int[] {LOW, -11, 11, HIGH}) {
            refused("mass, column", Check.ARGUMENT, made, x -> x.mass(0, wrong, 0, 1));
            refused("mass, row", Check.ARGUMENT, made, x -> x.mass(0, 0, wrong, 1));
            refused("two, column", Check.ARGUMENT, made, x -> x.two(0, wrong, 0));
            refused("two, row", Check.ARGUMENT, made, x -> x.two(0, 0, wrong));
            refused("source, column", Check.ARGUMENT, made, x -> x.source(wrong, 0, 1));
            refused("source, row", Check.ARGUMENT, made, x -> x.source(0, wrong, 1));
            refused("from, column", Check.ARGUMENT, made, x -> x.from(wrong, 0, true));
            refused("from, row", Check.ARGUMENT, made, x -> x.from(0, wrong, false));
            refused("hits, column", Check.ARGUMENT, made, x -> x.hits(wrong, 0));
            refused("hits, row", Check.ARGUMENT, made, x -> x.hits(0, wrong));
        }
        outOfRange("mass, shape", 0, 2, made, (x, v) -> x.mass(v, 0, 0, 1));
        outOfRange("mass, strength", 1, 8, made, (x, v) -> x.mass(0, 0, 0, v));
        outOfRange("source, light", 1, 100, made, (x, v) -> x.source(1, 1, v));
        outOfRange("flare, more", -100, 100, made, (x, v) -> x.flare(0, v));
        outOfRange("cross, width", 1, 50, made, (x, v) -> Check.done(() -> x.cross(0, 0, v, 1)));
        outOfRange("cross, height", 1, 1000, made, (x, v) -> Check.done(() -> x.cross(0, 0, 1, v)));
        outOfRange("season, from", 0, 99, made, (x, v) -> Check.done(() -> x.season(v, 99)));
        outOfRange("season, to", 50, 99, made, (x, v) -> Check.done(() -> x.season(50, v)));
        outOfRange("cloud, days", 0, 50, made, (x, v) -> x.cloud(v));
        outOfRange("world, growth", 40, 100, made, (x, v) -> x.world(v));
        outOfRange("pass, days", 1, 100, made, (x, v) -> x.pass(v));
        outOfRange("imageOf, what", 0, 4, made, (x, v) -> x.imageOf(0, 0, v));
        outOfRange("seen, rank", 0, 5, made, (x, v) -> x.seen(0, 0, v));
        refused("book, both the same", Check.ARGUMENT, made, x -> x.book(1, 0, 1, 1));
        refused("measured, both the same", Check.ARGUMENT, made, x -> x.measured(0, 0, 0));
    }

    private interface RefusedNumber {
        long call(Delaylens x, int number);
    }

    private static void outOfRange(String what, int least, int most, Made made, RefusedNumber call) {
        for (int wrong : new int[] {LOW, least - 1, most + 1, HIGH}) {
            refused(what + " " + wrong, Check.ARGUMENT, made, x -> call.call(x, wrong));
        }
    }

    private static void noSuch(Made made) {
        for (int none : new int[] {LOW, -1, 6, HIGH}) {
            refused("two, mass " + none, Check.INDEX, made, x -> x.two(none, 0, 0));
        }
        for (int none : new int[] {LOW, -1, 5, HIGH}) {
            refused("flare, source " + none, Check.INDEX, made, x -> x.flare(none, 1));
            refused("cross, source " + none, Check.INDEX, made, x -> Check.done(() -> x.cross(none, 0, 1, 1)));
            refused("book, source " + none, Check.INDEX, made, x -> x.book(1, none, 0, 1));
            refused("vote for, mind " + none, Check.INDEX, made, x -> x.vote(none, true) ? 1 : 0);
            refused("vote against, mind " + none, Check.INDEX, made, x -> x.vote(none, false) ? 1 : 0);
            refused("images, source " + none, Check.INDEX, made, x -> x.images(none));
            refused("imagesAnew, source " + none, Check.INDEX, made, x -> x.imagesAnew(none));
            refused("imageOf, source " + none, Check.INDEX, made, x -> x.imageOf(none, 0, 0));
            refused("delay, source " + none, Check.INDEX, made, x -> x.delay(none, 0, 1));
            refused("light, source " + none, Check.INDEX, made, x -> x.light(none, 0));
            refused("seen, source " + none, Check.INDEX, made, x -> x.seen(0, none, 0));
            refused("measured, source " + none, Check.INDEX, made, x -> x.measured(none, 0, 1));
        }
        for (int none : new int[] {LOW, -1, 441, HIGH}) {
            refused("cross, rank " + none, Check.INDEX, made, x -> Check.done(() -> x.cross(0, none, 1, 1)));
            refused("book, rank " + none, Check.INDEX, made, x -> x.book(1, 0, none, 1));
            refused("book, other " + none, Check.INDEX, made, x -> x.book(1, 0, 1, none));
            refused("imageOf, rank " + none, Check.INDEX, made, x -> x.imageOf(0, none, 0));
            refused("delay, rank " + none, Check.INDEX, made, x -> x.delay(0, none, 0));
            refused("delay, other " + none, Check.INDEX, made, x -> x.delay(0, 0, none));
            refused("light, rank " + none, Check.INDEX, made, x -> x.light(0, none));
            refused("measured, rank " + none, Check.INDEX, made, x -> x.measured(0, none, 0));
            refused("measured, other " + none, Check.INDEX, made, x -> x.measured(0, 0, none));
        }
        for (int none : new int[] {LOW, -1, 2, HIGH}) {
            refused("book, house " + none, Check.INDEX, made, x -> x.book(none, 0, 0, 1));
            refused("booked, house " + none, Check.INDEX, made, x -> x.booked(none));
            refused("isFresh, house " + none, Check.INDEX, made, x -> x.isFresh(none) ? 1 : 0);
        }
        for (int none : new int[] {LOW, -1, 60, HIGH}) {
            refused("seen, frame " + none, Check.INDEX, made, x -> x.seen(none, 0, 0));
        }
    }

    private static void nothingThere() {
        Made made = Delaylens::new;
        refused("two", Check.INDEX, made, x -> x.two(0, 0, 0));
        refused("flare", Check.INDEX, made, x -> x.flare(0, 1));
        refused("cross", Check.INDEX, made, x -> Check.done(() -> x.cross(0, 0, 1, 1)));
        refused("book", Check.INDEX, made, x -> x.book(0, 0, 0, 1));
        refused("images", Check.INDEX, made, x -> x.images(0));
        refused("imagesAnew", Check.INDEX, made, x -> x.imagesAnew(0));
        refused("imageOf", Check.INDEX, made, x -> x.imageOf(0, 0, 0));
        refused("delay", Check.INDEX, made, x -> x.delay(0, 0, 0));
        refused("light", Check.INDEX, made, x -> x.light(0, 0));
        refused("seen", Check.INDEX, made, x -> x.seen(0, 0, 0));
        refused("measured", Check.INDEX, made, x -> x.measured(0, 0, 1));
        refused("booked", Check.STATE, made, x -> x.booked(0));
        refused("isFresh", Check.STATE, made, x -> x.isFresh(0) ? 1 : 0);
        refused("dispute", Check.STATE, made, x -> x.dispute());
    }

    /** "an IllegalStateException as told" */
    private static void asTold() {
        refused("mass, there are 6", Check.STATE, RefusedTest::full, x -> x.mass(1, 3, 3, 2));
        for (int i = 0; i < 6; i++) {
            int mass = i;
            refused("two, there are 6", Check.STATE, RefusedTest::full, x -> x.two(mass, 3, 3));
        }
        refused("two, strength 1", Check.STATE, RefusedTest::rich, x -> x.two(1, 3, 3));
        refused("source, one in the cell", Check.STATE, RefusedTest::rich, x -> x.source(-4, 5, 20));
        refused("source, there are 5", Check.STATE, RefusedTest::full, x -> x.source(3, 3, 3));
        refused("flare, there were 40", Check.STATE, RefusedTest::full, x -> x.flare(1, 5));
        refused("cross, there are 20", Check.STATE, RefusedTest::crossedBy20, x -> Check.done(() -> x.cross(0, 0, 5, 50)));
        refused("world, there are frames", Check.STATE, RefusedTest::rich, x -> x.world(80));
        refused("world, there are 60 frames", Check.STATE, RefusedTest::full, x -> x.world(80));
        refused("frame, one was taken today", Check.STATE, RefusedTest::rich, x -> x.frame());
        refused("frame, there are 60", Check.STATE, () -> cleared(full()), x -> x.frame());
        refused("frame, cloudy", Check.STATE, () -> cloudy(on(rich(), 1)), x -> x.frame());
        refused("frame, out of season", Check.STATE, () -> on(rich(), 20), x -> x.frame());
        refused("pass, above 2000", Check.STATE, () -> on(rich(), 1900), x -> x.pass(89));
        refused("pass, above 2000", Check.STATE, () -> on(rich(), 1988), x -> x.pass(1));
        refused("booked, blind", Check.STATE, RefusedTest::rich, x -> x.booked(0));
        refused("dispute, blind", Check.STATE, RefusedTest::rich, x -> x.dispute());
        refused("isFresh, booked nothing", Check.STATE, RefusedTest::rich, x -> x.isFresh(1) ? 1 : 0);
    }

    private static Delaylens crossedBy20() {
        Delaylens x = rich();
        for (int i = 0; i < 13; i++) {
            x.cross(0, 1, 30, 300);
        }
        return x;
    }

    private static Delaylens on(Delaylens x, int days) {
        Sky.pass(x, days);
        return x;
    }

    private static Delaylens cloudy(Delaylens x) {
        x.cloud(1);
        return x;
    }

    private static Delaylens cleared(Delaylens x) {
        x.cloud(0);
        return x;
    }
}

/**
 * The promises one after the other: the first and the last value that each argument takes, and those right
 * beside them; nothing there yet and all the room used; which exception a refused call throws, and which
 * one goes ahead of another. That refused calls change nothing is looked into by RefusedTest.
 */
public final class PromisesEdgesTest {
    private static final int LOW = Integer.MIN_VALUE;
    private static final int HIGH = Integer.MAX_VALUE;

    public static void main(String[] args) {
        promise1();
        promise2();
        promise3();
        promise3Halves();
        promise3Room();
        promise4();
        promise5();
        promise6();
        promise7();
        promise8();
        promise9();
        promise10();
        promise11();
        promise12();
        promise13();
        promise14();
        promise15();
        promise16And17();
        promise18();
        promise19();
        promise20();
        promise21();
        promise22();
        promise23();
        promise24();
        promise25();
        promise26();
        promise27();
        promise28();
        Check.end();
    }

    private static void promise1() {
        Delaylens x = new Delaylens();
        Check.due("1 day 0", 0, () -> x.day());
        Check.due("1 no frames", 0, () -> x.frames());
        Check.due("1 no rays lost", 0, () -> x.lost());
        for (int number : new int[] {LOW, -1, 0, 1, 5, HIGH}) {
            Check.thrown("1 no masses", Check.INDEX, () -> x.two(number, 0, 0));
            Check.thrown("1 no sources", Check.INDEX, () -> x.images(number));
            Check.thrown("1 no sources", Check.INDEX, () -> x.imagesAnew(number));
            Check.thrown("1 no sources", Check.INDEX, () -> x.flare(number, 0));
            Check.thrown("1 no sources", Check.INDEX, () -> x.light(number, 0));
            Check.thrown("1 no sources", Check.INDEX, () -> x.imageOf(number, 0, 0));
            Check.thrown("1 no sources", Check.INDEX, () -> x.delay(number, 0, 0));
            Check.thrown("1 no sources", Check.INDEX, () -> x.measured(number, 0, 1));
            Check.thrown("1 no sources", Check.INDEX, () -> x.book(0, number, 0, 1));
            Check.thrown("1 no sources", Check.INDEX, () -> crossed(x, number, 0, 1, 1));
        }
        Check.thrown("1 blind", Check.STATE, () -> x.booked(0));
        Check.thrown("1 blind", Check.STATE, () -> x.dispute());
        Check.thrown("1 no bookings", Check.STATE, () -> fresh(x, 0));
        Check.thrown("1 no bookings", Check.STATE, () -> fresh(x, 1));
        Check.due("1 growth", 70, () -> x.world(70));
        Check.due("1 first source", 0, () -> x.source(10, 10, 1));
        Check.thrown("1 no frame of it", Check.INDEX, () -> x.seen(0, 0, 0));
        Check.due("1 not cloudy, in season", 0, () -> x.frame());
        Check.due("1 first mass", 0, () -> x.mass(Delaylens.SHEAR, -10, -10, 1));
        Check.due("1 another object is for itself", 0, () -> new Delaylens().frames());
        Check.thrown("1 another object is for itself", Check.INDEX, () -> new Delaylens().images(0));
    }

    private static void promise2() {
        Check.range("2 shape", Check.ARGUMENT, 0, 2, v -> new Delaylens().mass(v, 0, 0, 1));
        Check.range("2 column", Check.ARGUMENT, -10, 10, v -> new Delaylens().mass(0, v, 0, 1));
        Check.range("2 row", Check.ARGUMENT, -10, 10, v -> new Delaylens().mass(0, 0, v, 1));
        Check.range("2 strength", Check.ARGUMENT, 1, 8, v -> new Delaylens().mass(0, 0, 0, v));
        Delaylens x = new Delaylens();
        for (int i = 0; i < 6; i++) {
            int number = i;
            Check.due("2 number", number, () -> x.mass(number % 3, number, -number, 1 + number));
        }
        Check.thrown("2 there are 6", Check.STATE, () -> x.mass(0, 0, 0, 1));
        Check.thrown("2 out of range goes ahead", Check.ARGUMENT, () -> x.mass(-1, 0, 0, 1));
        Check.thrown("2 out of range goes ahead", Check.ARGUMENT, () -> x.mass(3, 0, 0, 1));
        Check.thrown("2 out of range goes ahead", Check.ARGUMENT, () -> x.mass(0, 11, 0, 1));
        Check.thrown("2 out of range goes ahead", Check.ARGUMENT, () -> x.mass(0, 0, -11, 1));
        Check.thrown("2 out of range goes ahead", Check.ARGUMENT, () -> x.mass(0, 0, 0, 0));
        Check.thrown("2 out of range goes ahead", Check.ARGUMENT, () -> x.mass(0, 0, 0, 9));
        Delaylens six = new Delaylens();
        for (int i = 0; i < 5; i++) {
            six.mass(Delaylens.STAR, -10, 10, 1);
        }
        six.mass(Delaylens.HALO, 5, 0, 6);
        Check.due("2 the sixth one bends", 6 - 6, () -> six.from(6, 0, false));
        Check.due("2 not the ray in its own cell", 5, () -> six.from(5, 0, false));
    }

    private static void promise3() {
        Check.range("3 column", Check.ARGUMENT, -10, 10, v -> massed(2).two(0, v, 0));
        Check.range("3 row", Check.ARGUMENT, -10, 10, v -> massed(2).two(0, 0, v));
        Check.thrown("3 strength 1", Check.STATE, () -> massed(1).two(0, 0, 0));
        for (int strength = 2; strength <= 8; strength++) {
            int enough = strength;
            Check.due("3 strength " + enough, 1, () -> massed(enough).two(0, 0, 0));
        }
        Delaylens x = new Delaylens();
        for (int masses = 0; masses < 6; masses++) {
            int next = masses;
            for (int number : new int[] {LOW, -1, next, next + 1, HIGH}) {
                Check.thrown("3 no such mass", Check.INDEX, () -> x.two(number, 0, 0));
            }
            x.mass(Delaylens.HALO, 0, 0, 1);
            Check.thrown("3 the last one, but of strength 1", Check.STATE, () -> x.two(next, 0, 0));
        }
        Check.thrown("3 no seventh mass", Check.INDEX, () -> x.two(6, 0, 0));
        Delaylens weak = massed(1);
        Check.thrown("3 no mass goes ahead of all", Check.INDEX, () -> weak.two(1, 11, 0));
        Check.thrown("3 no mass goes ahead of all", Check.INDEX, () -> weak.two(-1, 0, -11));
        Check.thrown("3 column goes ahead of strength", Check.ARGUMENT, () -> weak.two(0, 11, 0));
        Check.thrown("3 column goes ahead of strength", Check.ARGUMENT, () -> weak.two(0, -11, 0));
        Check.thrown("3 row goes ahead of strength", Check.ARGUMENT, () -> weak.two(0, 0, 11));
        Check.thrown("3 row goes ahead of strength", Check.ARGUMENT, () -> weak.two(0, 0, -11));
    }

    /** "half of its strength, rounded down, 1 at least, stays where it is, and another mass of its shape has the rest" */
    private static void promise3Halves() {
        for (int strength = 2; strength <= 8; strength++) {
            int half = new int[] {0, 0, 1, 1, 2, 2, 3, 3, 4}[strength];
            int rest = strength - half;
            Delaylens halo = massed(strength);
            Check.due("3 number", 1, () -> halo.two(0, 0, 5));
            Check.due("3 half of halo " + strength, 1 - half, () -> halo.from(1, 0, false));
            Check.due("3 half and rest of halo " + strength, 4 - half + rest, () -> halo.from(0, 4, true));
            Check.due("3 both of halo " + strength, 6 - half - rest, () -> halo.from(0, 6, true));
            Delaylens star = new Delaylens();
            star.mass(Delaylens.STAR, -10, -10, strength);
            star.two(0, 10, 10);
            Check.due("3 half of star " + strength, -9 - 4 * half, () -> star.from(-9, -10, false));
            Check.due("3 rest of star " + strength, 9 + 4 * rest, () -> star.from(10, 9, true));
            Delaylens shear = new Delaylens();
            shear.mass(Delaylens.SHEAR, -8, 0, strength);
            shear.two(0, 8, 8);
            Check.due("3 half of shear " + strength, 8 - 2 * half, () -> shear.from(8, 8, false));
            Check.due("3 rest of shear " + strength, -8 + 2 * rest, () -> shear.from(-8, 0, false));
            Check.due("3 rest of shear in rows " + strength, 0 - rest, () -> shear.from(-8, 0, true));
        }
        Delaylens here = massed(8);
        here.two(0, 0, 0);
        Check.due("3 both in one cell", 1 - 8, () -> here.from(1, 0, false));
    }

    private static void promise3Room() {
        Delaylens x = massed(8);
        Check.due("3 4 and 4", 1, () -> x.two(0, 1, 0));
        Check.due("3 4, 2 and 2", 2, () -> x.two(1, 2, 0));
        Check.due("3 4, 1, 2 and 1", 3, () -> x.two(1, 3, 0));
        Check.thrown("3 its half was 1", Check.STATE, () -> x.two(1, 0, 0));
        Check.thrown("3 its rest was 1", Check.STATE, () -> x.two(3, 0, 0));
        Check.due("3 4, 1, 1, 1 and 1", 4, () -> x.two(2, 4, 0));
        Check.due("3 2, 1, 1, 1, 1 and 2", 5, () -> x.two(0, 5, 0));
        Check.thrown("3 there are 6, strength 2", Check.STATE, () -> x.two(0, 0, 1));
        Check.thrown("3 there are 6, strength 2", Check.STATE, () -> x.two(5, 0, 1));
        Check.thrown("3 there are 6, strength 1", Check.STATE, () -> x.two(4, 0, 1));
        Check.thrown("3 nor another mass", Check.STATE, () -> x.mass(0, 0, 0, 1));
        Check.thrown("3 out of range goes ahead", Check.ARGUMENT, () -> x.two(0, 11, 1));
        Check.thrown("3 no mass goes ahead", Check.INDEX, () -> x.two(6, 0, 1));
    }

    private static void promise4() {
        Check.range("4 column", Check.ARGUMENT, -10, 10, v -> new Delaylens().source(v, 0, 1));
        Check.range("4 row", Check.ARGUMENT, -10, 10, v -> new Delaylens().source(0, v, 1));
        Check.range("4 light", Check.ARGUMENT, 1, 100, v -> new Delaylens().source(0, 0, v));
        int[][] cells = {{-10, -10}, {10, -10}, {-10, 10}, {10, 10}, {0, 0}};
        Delaylens x = new Delaylens();
        for (int i = 0; i < 5; i++) {
            int number = i;
            Check.due("4 number", number, () -> x.source(cells[number][0], cells[number][1], 1 + number));
            for (int j = 0; j <= i; j++) {
                int taken = j;
                Check.thrown("4 one in the cell", Check.STATE, () -> x.source(cells[taken][0], cells[taken][1], 50));
                Check.due("4 its light", 24 * (1 + taken), () -> x.light(taken, 0));
            }
        }
        Check.thrown("4 there are 5", Check.STATE, () -> x.source(1, 0, 1));
        Check.thrown("4 there are 5, one in the cell", Check.STATE, () -> x.source(0, 0, 1));
        Check.thrown("4 out of range goes ahead", Check.ARGUMENT, () -> x.source(-11, 0, 1));
        Check.thrown("4 out of range goes ahead", Check.ARGUMENT, () -> x.source(1, 11, 1));
        Check.thrown("4 out of range goes ahead", Check.ARGUMENT, () -> x.source(1, 0, 0));
        Check.thrown("4 out of range goes ahead of the cell", Check.ARGUMENT, () -> x.source(0, 0, 101));
        x.mass(Delaylens.HALO, 0, 0, 1);
        Check.thrown("4 sources are not gone", Check.STATE, () -> x.source(1, 0, 1));
        Check.due("4 a mass in its cell is none", 0, () -> massed(8).source(0, 0, 1));
    }

    private static void promise5() {
        Check.range("5 more", Check.ARGUMENT, -100, 100, v -> Sky.pair(100).flare(0, v));
        for (int more = -100; more <= 100; more++) {
            int taken = more;
            Check.due("5 its light today", Math.max(0, 60 + taken), () -> Sky.pair(60).flare(0, taken));
        }
        Delaylens x = new Delaylens();
        for (int sources = 0; sources < 5; sources++) {
            int next = sources;
            for (int number : new int[] {LOW, -1, next, HIGH}) {
                Check.thrown("5 no such source", Check.INDEX, () -> x.flare(number, 1));
            }
            x.source(next, 0, 10);
        }
        Check.thrown("5 no source goes ahead", Check.INDEX, () -> x.flare(5, 101));
        for (int i = 0; i < 40; i++) {
            int source = i % 5;
            Check.due("5 flare " + i, 11 + i / 5, () -> x.flare(source, 1));
        }
        for (int i = 0; i < 5; i++) {
            int source = i;
            Check.thrown("5 there were 40 of all", Check.STATE, () -> x.flare(source, 1));
        }
        Check.thrown("5 no source goes ahead", Check.INDEX, () -> x.flare(-1, 1));
        Check.thrown("5 more goes ahead", Check.ARGUMENT, () -> x.flare(0, 101));
        Check.thrown("5 more goes ahead", Check.ARGUMENT, () -> x.flare(0, -101));
        x.pass(100);
        x.mass(Delaylens.STAR, 10, 10, 1);
        Check.thrown("5 there were 40, whatever comes", Check.STATE, () -> x.flare(0, 0));
        Check.due("5 all of them hold", 24 * 18, () -> x.light(0, 0));
    }

    private static void promise6() {
        Check.range("6 width", Check.ARGUMENT, 1, 50, v -> crossed(Sky.pair(1), 0, 0, v, 1));
        Check.range("6 height", Check.ARGUMENT, 1, 1000, v -> crossed(Sky.pair(1), 0, 0, 1, v));
        Check.range("6 rank", Check.INDEX, 0, 1, v -> crossed(Sky.pair(1), 0, v, 1, 1));
        Check.range("6 rank", Check.INDEX, 0, 20, v -> crossed(Sky.flat(1), 0, v, 1, 1));
        Check.range("6 source", Check.INDEX, 0, 0, v -> crossed(Sky.pair(1), v, 0, 1, 1));
        Delaylens x = Sky.pair(1);
        x.source(0, 7, 1);
        Check.thrown("6 no source goes ahead", Check.INDEX, () -> crossed(x, 2, 0, 0, 1));
        Check.thrown("6 no image goes ahead", Check.INDEX, () -> crossed(x, 0, 2, 1, 1001));
        for (int i = 0; i < 20; i++) {
            int source = i % 2;
            Check.due("6 a star", 0, () -> crossed(x, source, 0, 50, 1000));
        }
        Check.thrown("6 there are 20 of all", Check.STATE, () -> crossed(x, 0, 1, 1, 1));
        Check.thrown("6 there are 20 of all", Check.STATE, () -> crossed(x, 1, 0, 1, 1));
        Check.thrown("6 no source goes ahead", Check.INDEX, () -> crossed(x, -1, 0, 1, 1));
        Check.thrown("6 no image goes ahead", Check.INDEX, () -> crossed(x, 0, -1, 1, 1));
        Check.thrown("6 width goes ahead", Check.ARGUMENT, () -> crossed(x, 0, 0, 51, 1));
        Check.thrown("6 height goes ahead", Check.ARGUMENT, () -> crossed(x, 0, 0, 1, 0));
        Sky.pass(x, 2000);
        Check.thrown("6 they go with frames alone", Check.STATE, () -> crossed(x, 0, 0, 1, 1));
        x.mass(Delaylens.HALO, 10, 10, 2);
        for (int i = 0; i < 20; i++) {
            Check.due("6 gone by a mass", 0, () -> crossed(x, 0, 0, 1, 1));
        }
        Check.thrown("6 there are 20 again", Check.STATE, () -> crossed(x, 0, 0, 1, 1));
        x.two(1, 10, 10);
        for (int i = 0; i < 20; i++) {
            Check.due("6 gone by two", 0, () -> crossed(x, 0, 0, 1, 1));
        }
        Check.thrown("6 there are 20 again", Check.STATE, () -> crossed(x, 0, 0, 1, 1));
    }

    private static void promise7() {
        Check.range("7 from", Check.ARGUMENT, 0, 99, v -> seasoned(v, 99));
        Check.range("7 from, to 0", Check.ARGUMENT, 0, 0, v -> seasoned(v, 0));
        for (int from : new int[] {0, 1, 50, 98, 99}) {
            Check.range("7 to, from " + from, Check.ARGUMENT, from, 99, v -> seasoned(from, v));
        }
        for (int[] wrong : new int[][] {{-1, -1}, {100, 100}, {-1, 100}, {LOW, HIGH}, {HIGH, LOW}, {100, 0}, {99, 0}}) {
            Check.thrown("7 both", Check.ARGUMENT, () -> seasoned(wrong[0], wrong[1]));
        }
    }

    private static void promise8() {
        Check.range("8 days", Check.ARGUMENT, 0, 50, v -> new Delaylens().cloud(v));
        Delaylens x = new Delaylens();
        Check.due("8 today with them", 50, () -> x.cloud(50));
        x.pass(20);
        Check.due("8 in the place of what was told", 21, () -> x.cloud(1));
        Check.thrown("8 today", Check.STATE, () -> x.frame());
        x.pass(1);
        Check.due("8 not the next day", 0, () -> x.frame());
        Check.due("8 after it is over", 71, () -> x.cloud(50));
        Check.due("8 none: today", 21, () -> x.cloud(0));
        Sky.pass(x, 1979);
        Check.due("8 on the last day", 2000, () -> x.cloud(0));
        Check.due("8 a frame on the last day", 1, () -> x.frame());
        Check.due("8 the first clear day may be beyond the last one", 2050, () -> x.cloud(50));
    }

    private static void promise9() {
        Check.range("9 growth", Check.ARGUMENT, 40, 100, v -> new Delaylens().world(v));
        Delaylens x = Sky.pair(1);
        int was = 70;
        for (int growth : new int[] {40, 100, 71, 71, 69}) {
            Check.due("9 what it was", was, () -> x.world(growth));
            Check.due("9 days by it", 480 / growth, () -> x.delay(0, 0, 1));
            was = growth;
        }
        x.frame();
        Check.thrown("9 there is a frame", Check.STATE, () -> x.world(70));
        Check.thrown("9 the same growth, too", Check.STATE, () -> x.world(69));
        Check.thrown("9 growth goes ahead", Check.ARGUMENT, () -> x.world(39));
        Check.thrown("9 growth goes ahead", Check.ARGUMENT, () -> x.world(101));
        x.pass(100);
        Check.thrown("9 there is a frame, whatever the day", Check.STATE, () -> x.world(70));
        x.two(0, 10, 10);
        Check.due("9 it is gone", 69, () -> x.world(70));
    }

    private static void promise10() {
        Delaylens x = new Delaylens();
        Check.due("10 without sources", 0, () -> x.frame());
        Check.thrown("10 one was taken today", Check.STATE, () -> x.frame());
        x.pass(1);
        x.season(2, 3);
        Check.thrown("10 no day of the season", Check.STATE, () -> x.frame());
        x.season(0, 99);
        x.cloud(1);
        Check.thrown("10 cloudy", Check.STATE, () -> x.frame());
        x.cloud(0);
        for (int i = 1; i < 60; i++) {
            int number = i;
            Check.due("10 number", number, () -> x.frame());
            x.pass(1);
        }
        Check.thrown("10 there are 60", Check.STATE, () -> x.frame());
        x.mass(0, 0, 0, 1);
        Check.due("10 number, from 0", 0, () -> x.frame());
    }

    private static void promise11() {
        Check.range("11 days", Check.ARGUMENT, 1, 100, v -> new Delaylens().pass(v));
        for (int days : new int[] {1, 99, 100}) {
            Delaylens x = new Delaylens();
            Sky.pass(x, 2000 - days);
            if (days < 100) {
                Check.thrown("11 above 2000", Check.STATE, () -> x.pass(days + 1));
            }
            Check.thrown("11 days go ahead", Check.ARGUMENT, () -> x.pass(101));
            Check.due("11 2000", 2000, () -> x.pass(days));
            Check.thrown("11 2001", Check.STATE, () -> x.pass(1));
            Check.thrown("11 2100", Check.STATE, () -> x.pass(100));
            Check.thrown("11 days go ahead", Check.ARGUMENT, () -> x.pass(0));
            Check.thrown("11 days go ahead", Check.ARGUMENT, () -> x.pass(HIGH));
            Check.thrown("11 days go ahead", Check.ARGUMENT, () -> x.pass(LOW));
            Check.due("11 the last day", 2000, () -> x.day());
        }
    }

    private static void promise12() {
        Check.range("12 house", Check.INDEX, 0, 1, v -> Sky.pair(1).book(v, 0, 0, 1));
        Check.range("12 source", Check.INDEX, 0, 0, v -> Sky.pair(1).book(0, v, 0, 1));
        for (int i = 1; i <= 20; i++) {
            int rank = i;
            Check.due("12 rank", 1, () -> Sky.flat(1).book(0, 0, rank, 0));
            Check.due("12 other", 1, () -> Sky.flat(1).book(0, 0, 0, rank));
        }
        Delaylens x = Sky.flat(1);
        for (int i = 0; i < 21; i++) {
            int rank = i;
            Check.thrown("12 both are the same", Check.ARGUMENT, () -> x.book(0, 0, rank, rank));
            Check.thrown("12 no house goes ahead", Check.INDEX, () -> x.book(2, 0, rank, rank));
            Check.thrown("12 no source goes ahead", Check.INDEX, () -> x.book(0, 1, rank, rank));
        }
        for (int none : new int[] {LOW, -1, 21, HIGH}) {
            Check.thrown("12 no image, of both the same", Check.INDEX, () -> x.book(0, 0, none, none));
            Check.thrown("12 no image", Check.INDEX, () -> x.book(1, 0, none, 3));
            Check.thrown("12 no other image", Check.INDEX, () -> x.book(1, 0, 3, none));
        }
        for (int i = 1; i <= 20; i++) {
            int count = i;
            Check.due("12 bookings of both houses", count, () -> x.book(count % 3 == 0 ? 1 : 0, 0, 0, count));
        }
    }

    private static void promise13() {
        Check.range("13 mind for it", Check.INDEX, 0, 4, v -> voted(new Delaylens(), v, true));
        Check.range("13 mind against it", Check.INDEX, 0, 4, v -> voted(new Delaylens(), v, false));
        Check.range("13 mind, open", Check.INDEX, 0, 4, v -> voted(Sky.open(new Delaylens()), v, false));
        int[][] threes = {{0, 1, 2}, {2, 3, 4}, {4, 0, 3}, {1, 4, 2}};
        for (int[] three : threes) {
            Delaylens x = new Delaylens();
            Check.due("13 one", 0, () -> voted(x, three[0], true));
            Check.due("13 two", 0, () -> voted(x, three[1], true));
            Check.due("13 three", 1, () -> voted(x, three[2], true));
            Check.due("13 open", 1, () -> voted(x, three[0], false));
        }
    }

    private static void promise14() {
        Delaylens x = new Delaylens();
        Check.due("14 the first day", 0, () -> x.day());
        Sky.pass(x, 1999);
        Check.due("14 the last but one", 1999, () -> x.day());
        x.pass(1);
        Check.due("14 the last day", 2000, () -> x.day());
    }

    private static void promise15() {
        for (boolean isRow : new boolean[] {false, true}) {
            Check.range("15 column", Check.ARGUMENT, -10, 10, v -> new Delaylens().from(v, 0, isRow));
            Check.range("15 row", Check.ARGUMENT, -10, 10, v -> new Delaylens().from(0, v, isRow));
            Check.range("15 column, with a mass", Check.ARGUMENT, -10, 10, v -> massed(8).from(v, 10, isRow));
            Check.range("15 row, with a mass", Check.ARGUMENT, -10, 10, v -> massed(8).from(10, v, isRow));
        }
        int[][] corners = {{-10, -10}, {-10, 10}, {10, -10}, {10, 10}};
        for (int[] c : corners) {
            Check.due("15 column of a corner", c[0] - 4 * c[0] / 10, () -> massed(8).from(c[0], c[1], false));
            Check.due("15 row of a corner", c[1] - 4 * c[1] / 10, () -> massed(8).from(c[0], c[1], true));
        }
    }

    private static void promise16And17() {
        Delaylens x = new Delaylens();
        for (int sources = 0; sources < 5; sources++) {
            int next = sources;
            for (int number : new int[] {LOW, -1, next, HIGH}) {
                Check.thrown("16 no such source", Check.INDEX, () -> x.images(number));
                Check.thrown("17 no such source", Check.INDEX, () -> x.imagesAnew(number));
            }
            x.source(10 - next, -10, 1);
            Check.due("16 the last one", 1, () -> x.images(next));
            Check.due("17 the last one", 1, () -> x.imagesAnew(next));
        }
        Check.thrown("16 no sixth", Check.INDEX, () -> x.images(5));
        Check.thrown("17 no sixth", Check.INDEX, () -> x.imagesAnew(5));
        Delaylens halo = massed(3);
        halo.source(0, 0, 1);
        Check.due("16 many", 17, () -> halo.images(0));
        Check.due("17 many", 17, () -> halo.imagesAnew(0));
        halo.two(0, 10, 10);
        Check.due("16 as many as anew", 0, () -> halo.images(0) - halo.imagesAnew(0));
        Check.due("16 as many as hits", 0, () -> halo.images(0) - halo.hits(0, 0));
    }

    private static void promise18() {
        Check.range("18 what", Check.ARGUMENT, 0, 4, v -> Sky.pair(1).imageOf(0, 1, v));
        Check.range("18 rank", Check.INDEX, 0, 20, v -> Sky.flat(1).imageOf(0, v, 4));
        Check.range("18 source", Check.INDEX, 0, 0, v -> Sky.pair(1).imageOf(v, 0, 0));
        Delaylens x = Sky.pair(1);
        Check.thrown("18 no source goes ahead", Check.INDEX, () -> x.imageOf(1, 0, 5));
        Check.thrown("18 no image goes ahead", Check.INDEX, () -> x.imageOf(0, 2, 5));
        Check.thrown("18 no image goes ahead", Check.INDEX, () -> x.imageOf(0, -1, -1));
        int[][] want = {{5, 0, 24, 15, 0}, {-1, 0, 24, 39, 6}};
        for (int i = 0; i < 10; i++) {
            int rank = i / 5;
            int what = i % 5;
            Check.due("18 what " + what, want[rank][what], () -> x.imageOf(0, rank, what));
        }
    }

    private static void promise19() {
        Check.range("19 column", Check.ARGUMENT, -10, 10, v -> new Delaylens().hits(v, 0));
        Check.range("19 row", Check.ARGUMENT, -10, 10, v -> new Delaylens().hits(0, v));
        Delaylens x = Sky.flat(1);
        for (int i = -10; i <= 10; i++) {
            int at = i;
            Check.due("19 all columns", at % 2 == 0 ? 21 : 0, () -> x.hits(0, at));
            Check.due("19 none", at == 0 ? 21 : 0, () -> x.hits(at, 10));
        }
    }

    private static void promise20() {
        Check.due("20 none without masses", 0, () -> new Delaylens().lost());
        Check.due("20 rows beyond 5", 210, () -> Sky.flat(1).lost());
        Delaylens x = new Delaylens();
        for (int i = 0; i < 6; i++) {
            x.mass(Delaylens.SHEAR, -10, -10, 8);
        }
        // Column -10 alone comes from the field, and of the rows -10, -9 and -8.
        Check.due("20 all but 3", 438, () -> x.lost());
    }

    private static void promise21() {
        Check.range("21 source", Check.INDEX, 0, 0, v -> Sky.pair(1).delay(v, 0, 1));
        Check.range("21 rank", Check.INDEX, 0, 20, v -> Sky.flat(1).delay(0, v, 0));
        Check.range("21 other", Check.INDEX, 0, 20, v -> Sky.flat(1).delay(0, 0, v));
        Check.thrown("21 neither", Check.INDEX, () -> Sky.pair(1).delay(0, 2, 2));
        Check.due("21 both the same", 0, () -> Sky.pair(1).delay(0, 1, 1));
        Check.due("21 later", 6, () -> Sky.pair(1).delay(0, 0, 1));
        Check.due("21 earlier", -6, () -> Sky.pair(1).delay(0, 1, 0));
    }

    private static void promise22() {
        Check.range("22 source", Check.INDEX, 0, 0, v -> Sky.pair(1).light(v, 0));
        Check.range("22 rank", Check.INDEX, 0, 1, v -> Sky.pair(1).light(0, v));
        Check.range("22 rank", Check.INDEX, 0, 20, v -> Sky.flat(1).light(0, v));
        Check.due("22 least", 24, () -> Sky.pair(1).light(0, 1));
        Check.due("22 most", 2400, () -> Sky.pair(100).light(0, 1));
    }

    private static void promise23() {
        Delaylens x = new Delaylens();
        for (int i = 0; i < 60; i++) {
            int frames = i;
            Check.due("23 frames", frames, () -> x.frames());
            x.frame();
            x.pass(1);
        }
        Check.due("23 60", 60, () -> x.frames());
        Check.thrown("23 no more", Check.STATE, () -> x.frame());
        Check.due("23 60 still", 60, () -> x.frames());
        x.mass(0, 0, 0, 1);
        Check.due("23 gone", 0, () -> x.frames());
    }

    private static void promise24() {
        Delaylens x = Sky.flat(1);
        for (int frames = 0; frames < 3; frames++) {
            int next = frames;
            for (int number : new int[] {LOW, -1, next, HIGH}) {
                Check.thrown("24 no such frame", Check.INDEX, () -> x.seen(number, 0, 0));
            }
            x.frame();
            x.pass(1);
            Check.range("24 rank", Check.ARGUMENT, 0, 5, v -> x.seen(next, 0, v));
        }
        Check.range("24 source", Check.INDEX, 0, 0, v -> x.seen(2, v, 5));
        Check.thrown("24 no frame goes ahead", Check.INDEX, () -> x.seen(3, 0, 6));
        Check.thrown("24 no frame goes ahead", Check.INDEX, () -> x.seen(-1, 0, -1));
        Check.thrown("24 no source goes ahead", Check.INDEX, () -> x.seen(0, 1, 6));
        Check.thrown("24 no source goes ahead", Check.INDEX, () -> x.seen(0, -1, -1));
        x.source(3, 3, 1);
        Check.due("24 told after the frame", Delaylens.NONE, () -> x.seen(2, 1, 0));
        x.source(0, 2, 1);
        x.frame();
        Check.due("24 without images", Delaylens.NONE, () -> x.seen(3, 1, 0));
        Check.due("24 the sixth image", 24, () -> x.seen(3, 2, 5));
        x.mass(0, 0, 0, 1);
        Check.thrown("24 all are gone", Check.INDEX, () -> x.seen(0, 0, 0));
    }

    private static void promise25() {
        Check.range("25 source", Check.INDEX, 0, 0, v -> Sky.pair(1).measured(v, 0, 1));
        Check.due("25 of two images", Delaylens.NONE, () -> Sky.pair(1).measured(0, 1, 0));
        for (int none : new int[] {-1, 2, 5, 6}) {
            Check.thrown("25 of two images", Check.INDEX, () -> Sky.pair(1).measured(0, none, 0));
            Check.thrown("25 of two images", Check.INDEX, () -> Sky.pair(1).measured(0, 0, none));
        }
        Delaylens x = Sky.flat(1);
        for (int i = 0; i < 21; i++) {
            int rank = i;
            if (i > 0 && i <= 5) {
                Check.due("25 rank", Delaylens.NONE, () -> x.measured(0, rank, 0));
                Check.due("25 other", Delaylens.NONE, () -> x.measured(0, 0, rank));
            } else if (i > 5) {
                Check.thrown("25 above 5", Check.ARGUMENT, () -> x.measured(0, rank, 0));
                Check.thrown("25 above 5", Check.ARGUMENT, () -> x.measured(0, 0, rank));
            }
            Check.thrown("25 both the same", Check.ARGUMENT, () -> x.measured(0, rank, rank));
            Check.thrown("25 no source goes ahead", Check.INDEX, () -> x.measured(1, rank, rank));
            Check.thrown("25 no image goes ahead", Check.INDEX, () -> x.measured(0, rank, 21));
            Check.thrown("25 no image goes ahead", Check.INDEX, () -> x.measured(0, -1, rank));
        }
        for (int none : new int[] {LOW, -1, 21, HIGH}) {
            Check.thrown("25 no image, of both the same", Check.INDEX, () -> x.measured(0, none, none));
            Check.thrown("25 no image", Check.INDEX, () -> x.measured(0, none, 0));
            Check.thrown("25 no other image", Check.INDEX, () -> x.measured(0, 0, none));
        }
    }

    private static void promise26() {
        Check.range("26 house", Check.INDEX, 0, 1, v -> Sky.open(new Delaylens()).booked(v));
        Delaylens x = Sky.pair(1);
        x.book(0, 0, 0, 1);
        for (int votes = 0; votes < 3; votes++) {
            Check.thrown("26 not open", Check.STATE, () -> x.booked(0));
            Check.thrown("26 not open, booked nothing", Check.STATE, () -> x.booked(1));
            for (int house : new int[] {LOW, -1, 2, HIGH}) {
                Check.thrown("26 no house goes ahead", Check.INDEX, () -> x.booked(house));
            }
            x.vote(2 * votes, true);
        }
        Check.due("26 booked NONE", Delaylens.NONE, () -> x.booked(0));
        Check.due("26 booked nothing", Delaylens.NONE, () -> x.booked(1));
    }

    private static void promise27() {
        Delaylens x = massed(4);
        x.source(0, 0, 1);
        for (int house : new int[] {LOW, -1, 2, HIGH}) {
            Check.thrown("27 no house", Check.INDEX, () -> fresh(x, house));
        }
        Check.thrown("27 nothing booked", Check.STATE, () -> fresh(x, 0));
        Check.thrown("27 nothing booked", Check.STATE, () -> fresh(x, 1));
        x.book(1, 0, 0, 1);
        Check.due("27 as they were, and blind", 1, () -> fresh(x, 1));
        Check.thrown("27 nothing booked by the other", Check.STATE, () -> fresh(x, 0));
        x.world(50);
        x.season(1, 2);
        x.cloud(0);
        x.pass(1);
        x.frame();
        x.source(3, 3, 3);
        x.flare(0, 1);
        crossed(x, 0, 0, 1, 1);
        Check.due("27 no mass was told", 1, () -> fresh(x, 1));
        Check.thrown("27 a mass that is out of range", Check.ARGUMENT, () -> x.mass(0, 0, 0, 9));
        Check.due("27 nor then", 1, () -> fresh(x, 1));
        for (int i = 1; i < 6; i++) {
            x.mass(0, 0, 0, 1);
            Check.due("27 another mass", 0, () -> fresh(x, 1));
        }
        x.book(0, 0, 0, 1);
        Check.due("27 anew", 1, () -> fresh(x, 0));
        Check.thrown("27 a seventh", Check.STATE, () -> x.two(0, 0, 0));
        Check.due("27 as they were", 1, () -> fresh(x, 0));
        Check.due("27 not for the other one", 0, () -> fresh(x, 1));
        Delaylens y = Sky.pair(1);
        y.book(0, 0, 0, 1);
        y.two(0, 0, 0);
        Check.due("27 two", 0, () -> fresh(y, 0));
        y.book(0, 0, 0, 1);
        Check.due("27 the last booking counts", 1, () -> fresh(y, 0));
        for (int house : new int[] {LOW, -1, 2, HIGH}) {
            Check.thrown("27 no house", Check.INDEX, () -> fresh(y, house));
        }
    }

    private static void promise28() {
        Delaylens x = Sky.pair(1);
        for (int votes = 0; votes < 3; votes++) {
            Check.thrown("28 not open", Check.STATE, () -> x.dispute());
            x.vote(4 - votes, true);
        }
        Check.due("28 neither booked", Delaylens.NONE, () -> x.dispute());
        x.book(0, 0, 0, 1);
        Check.due("28 one is NONE", Delaylens.NONE, () -> x.dispute());
        x.book(1, 0, 0, 1);
        Check.due("28 both are NONE", Delaylens.NONE, () -> x.dispute());
    }

    private static Delaylens massed(int strength) {
        Delaylens x = new Delaylens();
        x.mass(Delaylens.HALO, 0, 0, strength);
        return x;
    }

    private static long crossed(Delaylens x, int source, int rank, int width, int height) {
        return Check.done(() -> x.cross(source, rank, width, height));
    }

    private static long seasoned(int from, int to) {
        return Check.done(() -> new Delaylens().season(from, to));
    }

    private static long voted(Delaylens x, int mind, boolean isFor) {
        return x.vote(mind, isFor) ? 1 : 0;
    }

    private static long fresh(Delaylens x, int house) {
        return x.isFresh(house) ? 1 : 0;
    }
}

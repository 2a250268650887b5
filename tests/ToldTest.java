/** Promises 1 to 13: what is told. The answers that are due were worked out by hand from the document. */
public final class ToldTest {
    public static void main(String[] args) {
        newObject();
        massShapes();
        massArguments();
        massMakesAnew();
        two();
        twoArguments();
        source();
        flare();
        cross();
        crossLimits();
        season();
        cloud();
        world();
        frame();
        framesLimit();
        pass();
        book();
        bookByWays();
        bookArguments();
        vote();
        Check.end();
    }

    private static void newObject() {
        Delaylens x = new Delaylens();
        Check.due("1 day", 0, () -> x.day());
        Check.due("1 frames", 0, () -> x.frames());
        Check.due("1 lost", 0, () -> x.lost());
        Check.due("1 from", -10, () -> x.from(-10, 10, false));
        Check.due("1 from", 10, () -> x.from(-10, 10, true));
        Check.thrown("1 no mass", Check.INDEX, () -> x.two(0, 0, 0));
        Check.thrown("1 no source", Check.INDEX, () -> x.images(0));
        Check.thrown("1 no frame", Check.INDEX, () -> x.seen(0, 0, 0));
        Check.due("1 growth", 70, () -> x.world(70));
        Delaylens y = new Delaylens();
        y.mass(Delaylens.SHEAR, 0, 0, 8);
        Check.due("1 each object for itself", 1, () -> x.hits(3, 3));
    }

    private static void massShapes() {
        Delaylens halo = new Delaylens();
        Check.due("2 number", 0, () -> halo.mass(Delaylens.HALO, 1, -1, 3));
        place("2 halo", halo, 1, -1, 1, -1);
        place("2 halo aside", halo, 4, 1, 3, 0);
        place("2 halo aside, below 0", halo, -2, -3, -1, -2);
        place("2 halo ahead", halo, -1, -1, 2, -1);
        Delaylens star = new Delaylens();
        star.mass(Delaylens.STAR, 0, 0, 5);
        place("2 star", star, 0, 0, 0, 0);
        place("2 star right beside", star, 0, 1, 0, -19);
        place("2 star aside", star, -3, 2, 3 - 4, 2 - 1);
        place("2 star far", star, 10, 10, 10, 10);
        Delaylens shear = new Delaylens();
        shear.mass(Delaylens.SHEAR, 0, 0, 3);
        place("2 shear", shear, 5, 5, 4, 6);
        place("2 shear below 0", shear, -5, -5, -4, -6);
        place("2 shear rounded toward 0", shear, -2, -2, -2, -2);
        shear.mass(Delaylens.SHEAR, 0, 0, 3);
        place("2 each mass rounded for itself", shear, 5, 2, 3, 2);
        place("2 two shears", shear, -10, 10, -4, 16);
    }

    private static void massArguments() {
        Delaylens x = new Delaylens();
        for (int[] wrong : new int[][] {{-1, 0, 0, 1}, {3, 0, 0, 1}, {0, -11, 0, 1}, {0, 11, 0, 1}, {0, 0, -11, 1},
                {0, 0, 11, 1}, {0, 0, 0, 0}, {0, 0, 0, 9}, {Integer.MIN_VALUE, 0, 0, 1}, {0, 0, Integer.MAX_VALUE, 1}}) {
            Check.thrown("2 out of range", Check.ARGUMENT, () -> x.mass(wrong[0], wrong[1], wrong[2], wrong[3]));
        }
        Check.due("2 lowest", 0, () -> x.mass(0, -10, -10, 1));
        Check.due("2 highest", 1, () -> x.mass(2, 10, 10, 8));
        for (int i = 2; i < 6; i++) {
            int number = i;
            Check.due("2 in one cell", number, () -> x.mass(Delaylens.STAR, 0, 0, 1));
        }
        x.frame();
        Check.thrown("2 a seventh", Check.STATE, () -> x.mass(0, 0, 0, 1));
        Check.thrown("2 a seventh out of range", Check.ARGUMENT, () -> x.mass(0, 0, 0, 9));
        Check.due("2 that changes nothing", 1, () -> x.frames());
    }

    private static void massMakesAnew() {
        Delaylens x = new Delaylens();
        x.source(2, 0, 50);
        Check.due("2 images ahead", 1, () -> x.images(0));
        x.cross(0, 0, 1, 1000);
        x.pass(1);
        Check.due("2 star ahead", 24 * 50 + 1000, () -> x.light(0, 0));
        x.frame();
        Check.thrown("2 out of range changes nothing", Check.ARGUMENT, () -> x.mass(0, 0, 0, 0));
        Check.due("2 frames ahead", 1, () -> x.frames());
        x.mass(Delaylens.HALO, 0, 0, 3);
        Check.due("2 frames are gone", 0, () -> x.frames());
        Check.due("2 stars are gone", 24 * 50, () -> x.light(0, 0));
        Check.due("2 images then", 2, () -> x.images(0));
        Check.due("2 another frame today", 0, () -> x.frame());
    }

    private static void two() {
        Delaylens x = new Delaylens();
        x.mass(Delaylens.HALO, 0, 0, 5);
        x.source(0, 0, 10);
        x.cross(0, 0, 1, 500);
        x.pass(1);
        x.frame();
        Check.due("3 number", 1, () -> x.two(0, 10, 10));
        place("3 the lower half stays", x, 1, 0, 1 - 2 + 1, 0 + 1);
        Check.due("3 frames are gone", 0, () -> x.frames());
        Check.due("3 a frame on the same day", 0, () -> x.frame());
        Check.due("3 again", 2, () -> x.two(1, 10, 10));
        place("3 three halos", x, 10, 0, 10 - 2, 0 + 1 + 2);
        Delaylens shear = new Delaylens();
        shear.mass(Delaylens.SHEAR, 0, 0, 8);
        shear.source(0, 0, 1);
        Check.due("3 images ahead", 21, () -> shear.images(0));
        shear.two(0, 8, 0);
        place("3 a shear too", shear, 4, 2, 4 - 2 + 2, 2 + 1 + 1);
        Check.due("3 images then", 0, () -> shear.images(0));
        Delaylens star = new Delaylens();
        star.mass(Delaylens.STAR, 0, 0, 3);
        star.source(9, 9, 7);
        star.cross(0, 0, 1, 500);
        star.pass(1);
        star.two(0, 10, 0);
        place("3 one stays, two go", star, 1, 0, 1 - 4, 0);
        place("3 two are there", star, 9, 0, 9 + 8, 0);
        Check.due("3 stars are gone", 24 * 7, () -> star.light(0, 0));
        Check.thrown("3 strength 1", Check.STATE, () -> star.two(0, 0, 0));
        Check.due("3 strength 2", 2, () -> star.two(1, 10, 0));
        place("3 two at one place", star, 9, 0, 9 + 8, 0);
        Check.thrown("3 strength 1 then", Check.STATE, () -> star.two(1, 0, 0));
        Check.thrown("3 strength 1 too", Check.STATE, () -> star.two(2, 0, 0));
    }

    private static void twoArguments() {
        Delaylens x = new Delaylens();
        x.mass(0, 0, 0, 1);
        x.frame();
        Check.thrown("3 no mass", Check.INDEX, () -> x.two(-1, 99, 0));
        Check.thrown("3 no mass", Check.INDEX, () -> x.two(1, 0, 0));
        Check.thrown("3 column", Check.ARGUMENT, () -> x.two(0, -11, 0));
        Check.thrown("3 column", Check.ARGUMENT, () -> x.two(0, 11, 0));
        Check.thrown("3 row", Check.ARGUMENT, () -> x.two(0, 0, -11));
        Check.thrown("3 row", Check.ARGUMENT, () -> x.two(0, 0, 11));
        Check.thrown("3 strength 1", Check.STATE, () -> x.two(0, 0, 0));
        Check.due("3 that changes nothing", 1, () -> x.frames());
        for (int i = 0; i < 5; i++) {
            x.mass(0, 5, 5, 8);
        }
        x.pass(1);
        x.frame();
        Check.thrown("3 a seventh", Check.STATE, () -> x.two(1, 0, 0));
        Check.thrown("3 no seventh", Check.INDEX, () -> x.two(6, 0, 0));
        Check.due("3 that changes nothing", 1, () -> x.frames());
    }

    private static void source() {
        Delaylens x = new Delaylens();
        for (int[] wrong : new int[][] {{-11, 0, 1}, {11, 0, 1}, {0, -11, 1}, {0, 11, 1}, {0, 0, 0}, {0, 0, 101}}) {
            Check.thrown("4 out of range", Check.ARGUMENT, () -> x.source(wrong[0], wrong[1], wrong[2]));
        }
        Check.due("4 lowest", 0, () -> x.source(-10, -10, 1));
        Check.due("4 highest", 1, () -> x.source(10, 10, 100));
        Check.due("4 light", 2400, () -> x.light(1, 0));
        Check.thrown("4 the same cell", Check.STATE, () -> x.source(10, 10, 5));
        Check.thrown("4 the same cell out of range", Check.ARGUMENT, () -> x.source(10, 10, 0));
        Check.thrown("4 the cell of the first", Check.STATE, () -> x.source(-10, -10, 5));
        Check.due("4 the same column", 2, () -> x.source(10, -10, 1));
        Check.due("4 the same row", 3, () -> x.source(-10, 10, 1));
        Check.thrown("4 no fifth yet", Check.INDEX, () -> x.images(4));
        Check.due("4 the last", 4, () -> x.source(0, 0, 1));
        Check.thrown("4 a sixth", Check.STATE, () -> x.source(1, 1, 1));
        Check.thrown("4 a sixth out of range", Check.ARGUMENT, () -> x.source(1, 1, 101));
        Check.thrown("4 no sixth", Check.INDEX, () -> x.images(5));
    }

    private static void flare() {
        Delaylens x = new Delaylens();
        x.source(0, 0, 30);
        x.source(1, 0, 60);
        Check.thrown("5 no source", Check.INDEX, () -> x.flare(2, 101));
        Check.thrown("5 no source", Check.INDEX, () -> x.flare(-1, 0));
        Check.thrown("5 more", Check.ARGUMENT, () -> x.flare(0, 101));
        Check.thrown("5 more", Check.ARGUMENT, () -> x.flare(0, -101));
        Check.due("5 light today", 130, () -> x.flare(0, 100));
        Check.due("5 another source", 720 * 2, () -> x.light(1, 0));
        Check.due("5 less", 30, () -> x.flare(0, -100));
        Check.due("5 not below 0", 0, () -> x.flare(0, -100));
        Check.due("5 all together", 20, () -> x.flare(0, 90));
        Check.due("5 light of the image", 480, () -> x.light(0, 0));
        x.pass(5);
        Check.due("5 it stays", 25, () -> x.flare(0, 5));
        for (int i = 5; i < 40; i++) {
            Check.due("5 nothing more", 60, () -> x.flare(1, 0));
        }
        Check.thrown("5 41 of all sources", Check.STATE, () -> x.flare(0, 1));
        Check.thrown("5 41 out of range", Check.ARGUMENT, () -> x.flare(0, 101));
        Check.due("5 that changes nothing", 600, () -> x.light(0, 0));
        x.mass(Delaylens.HALO, 10, 10, 1);
        Check.thrown("5 flares are not gone", Check.STATE, () -> x.flare(0, 1));
        Check.due("5 nor is their light", 600, () -> x.light(0, 0));
    }

    private static void cross() {
        Delaylens x = new Delaylens();
        x.mass(Delaylens.HALO, 0, 0, 3);
        x.source(2, 0, 10);
        x.source(-3, 2, 10);
        x.cross(0, 1, 3, 100);
        int[] more = {0, 33, 66, 100, 66, 33, 0, 0};
        for (int i = 0; i < more.length; i++) {
            int want = 240 + more[i];
            Check.due("6 day " + i, want, () -> x.light(0, 1));
            Check.due("6 not the other image", 240, () -> x.light(0, 0));
            x.pass(1);
        }
        long other = x.light(1, 0);
        x.cross(0, 0, 1, 1);
        x.cross(0, 0, 1, 1000);
        x.cross(0, 0, 50, 49);
        x.pass(1);
        Check.due("6 stars together, a faint one rounded toward 0", 240 + 1001, () -> x.light(0, 0));
        Check.due("6 not the other source", other, () -> x.light(1, 0));
        x.pass(1);
        Check.due("6 only the wide one", 240 + 1, () -> x.light(0, 0));
        x.pass(48);
        Check.due("6 in the middle", 240 + 49, () -> x.light(0, 0));
        x.pass(49);
        Check.due("6 almost over", 240, () -> x.light(0, 0));
    }

    private static void crossLimits() {
        Delaylens x = new Delaylens();
        x.source(0, 0, 10);
        Check.thrown("6 no source", Check.INDEX, () -> crossed(x, 1, 0, 0, 1));
        Check.thrown("6 no source", Check.INDEX, () -> crossed(x, -1, 0, 1, 1));
        Check.thrown("6 no image", Check.INDEX, () -> crossed(x, 0, 1, 1, 0));
        Check.thrown("6 no image", Check.INDEX, () -> crossed(x, 0, -1, 1, 1));
        Check.thrown("6 width", Check.ARGUMENT, () -> crossed(x, 0, 0, 0, 1));
        Check.thrown("6 width", Check.ARGUMENT, () -> crossed(x, 0, 0, 51, 1));
        Check.thrown("6 height", Check.ARGUMENT, () -> crossed(x, 0, 0, 1, 0));
        Check.thrown("6 height", Check.ARGUMENT, () -> crossed(x, 0, 0, 1, 1001));
        for (int i = 0; i < 20; i++) {
            Check.due("6 twenty", 0, () -> crossed(x, 0, 0, 1, 10));
        }
        Check.thrown("6 21", Check.STATE, () -> crossed(x, 0, 0, 1, 10));
        Check.thrown("6 21 out of range", Check.ARGUMENT, () -> crossed(x, 0, 0, 1, 1001));
        x.pass(100);
        Check.thrown("6 they are not gone by days", Check.STATE, () -> crossed(x, 0, 0, 1, 10));
        Check.due("6 number", 0, () -> x.mass(Delaylens.STAR, 10, 10, 2));
        for (int i = 0; i < 20; i++) {
            Check.due("6 twenty again", 0, () -> crossed(x, 0, 0, 1, 10));
        }
        Check.thrown("6 21 again", Check.STATE, () -> crossed(x, 0, 0, 1, 10));
        x.two(0, 10, 10);
        Check.due("6 gone with two", 0, () -> crossed(x, 0, 0, 1, 10));
        x.pass(1);
        Check.due("6 one is left", 250, () -> x.light(0, 0));
    }

    private static void season() {
        Delaylens x = new Delaylens();
        for (int[] wrong : new int[][] {{-1, 5}, {100, 100}, {5, 4}, {0, 100}, {50, -1}}) {
            Check.thrown("7 out of range", Check.ARGUMENT, () -> seasoned(x, wrong[0], wrong[1]));
        }
        x.pass(99);
        Check.due("7 0 to 99 at first", 0, () -> x.frame());
        Check.due("7 one day", 0, () -> seasoned(x, 1, 1));
        x.pass(1);
        Check.thrown("7 day 100", Check.STATE, () -> x.frame());
        Check.thrown("7 wrong season changes nothing", Check.ARGUMENT, () -> seasoned(x, 0, 100));
        Check.thrown("7 day 100 still", Check.STATE, () -> x.frame());
        x.pass(1);
        Check.due("7 day 101", 1, () -> x.frame());
        x.pass(1);
        Check.thrown("7 day 102", Check.STATE, () -> x.frame());
        Check.due("7 another season", 0, () -> seasoned(x, 2, 3));
        Check.due("7 day 102 then", 2, () -> x.frame());
        x.pass(1);
        Check.due("7 day 103", 3, () -> x.frame());
        x.pass(1);
        Check.thrown("7 day 104", Check.STATE, () -> x.frame());
        Check.due("7 the last of 100", 0, () -> seasoned(x, 99, 99));
        Check.thrown("7 not this day", Check.STATE, () -> x.frame());
        Check.due("7 the whole", 0, () -> seasoned(x, 0, 99));
        Check.due("7 day 104 then", 4, () -> x.frame());
    }

    private static void cloud() {
        Delaylens x = new Delaylens();
        Check.thrown("8 days", Check.ARGUMENT, () -> x.cloud(-1));
        Check.thrown("8 days", Check.ARGUMENT, () -> x.cloud(51));
        x.pass(7);
        Check.due("8 first clear day", 57, () -> x.cloud(50));
        Check.thrown("8 cloudy", Check.STATE, () -> x.frame());
        Check.due("8 in the place of that", 9, () -> x.cloud(2));
        Check.thrown("8 today too", Check.STATE, () -> x.frame());
        Check.thrown("8 wrong days change nothing", Check.ARGUMENT, () -> x.cloud(51));
        x.pass(1);
        Check.thrown("8 the last cloudy day", Check.STATE, () -> x.frame());
        x.pass(1);
        Check.due("8 clear", 0, () -> x.frame());
        x.pass(1);
        Check.due("8 one day", 11, () -> x.cloud(1));
        Check.thrown("8 one day", Check.STATE, () -> x.frame());
        Check.due("8 none", 10, () -> x.cloud(0));
        Check.due("8 none", 1, () -> x.frame());
    }

    private static void world() {
        Delaylens x = new Delaylens();
        x.mass(Delaylens.HALO, 0, 0, 3);
        x.source(2, 0, 10);
        Check.thrown("9 growth", Check.ARGUMENT, () -> x.world(39));
        Check.thrown("9 growth", Check.ARGUMENT, () -> x.world(101));
        Check.due("9 late at 70", 6, () -> x.imageOf(0, 1, 4));
        Check.due("9 what it was", 70, () -> x.world(40));
        Check.due("9 late at 40", 12, () -> x.imageOf(0, 1, 4));
        Check.due("9 what it was", 40, () -> x.world(100));
        Check.due("9 late at 100", 4, () -> x.delay(0, 0, 1));
        x.cross(0, 0, 1, 1);
        Check.due("9 stars do not matter", 100, () -> x.world(100));
        x.frame();
        Check.thrown("9 frames", Check.STATE, () -> x.world(50));
        Check.thrown("9 frames, out of range", Check.ARGUMENT, () -> x.world(0));
        x.mass(Delaylens.HALO, 10, 10, 1);
        Check.due("9 frames are gone", 100, () -> x.world(50));
    }

    private static void frame() {
        Delaylens x = new Delaylens();
        x.source(0, 0, 10);
        Check.due("10 number", 0, () -> x.frame());
        Check.thrown("10 one a day", Check.STATE, () -> x.frame());
        x.flare(0, 5);
        Check.due("10 it keeps its lights", 240, () -> x.seen(0, 0, 0));
        x.pass(1);
        Check.due("10 the next", 1, () -> x.frame());
        Check.due("10 the next lights", 360, () -> x.seen(1, 0, 0));
        x.mass(Delaylens.STAR, 10, 10, 1);
        Check.due("10 one that is gone does not matter", 0, () -> x.frame());
    }

    private static void framesLimit() {
        Delaylens x = new Delaylens();
        x.season(0, 59);
        for (int i = 0; i < 60; i++) {
            int number = i;
            Check.due("10 sixty", number, () -> x.frame());
            x.pass(1);
        }
        Check.thrown("10 no day of the season", Check.STATE, () -> x.frame());
        x.pass(40);
        Check.thrown("10 there are 60", Check.STATE, () -> x.frame());
        Check.due("10 frames", 60, () -> x.frames());
        x.mass(Delaylens.HALO, 0, 0, 1);
        Check.due("10 after they are gone", 0, () -> x.frame());
    }

    private static void pass() {
        Delaylens x = new Delaylens();
        Check.thrown("11 days", Check.ARGUMENT, () -> x.pass(0));
        Check.thrown("11 days", Check.ARGUMENT, () -> x.pass(101));
        Check.thrown("11 days", Check.ARGUMENT, () -> x.pass(Integer.MAX_VALUE));
        Check.due("11 a day", 1, () -> x.pass(1));
        for (int i = 1; i < 20; i++) {
            int day = 1 + 100 * i;
            Check.due("11 days", day, () -> x.pass(100));
        }
        Check.thrown("11 above 2000", Check.STATE, () -> x.pass(100));
        Check.due("11 that changes nothing", 1901, () -> x.day());
        Check.due("11 to the end", 2000, () -> x.pass(99));
        Check.thrown("11 beyond the end", Check.STATE, () -> x.pass(1));
        Check.thrown("11 beyond the end, out of range", Check.ARGUMENT, () -> x.pass(101));
        Check.due("11 cloudy beyond the end", 2050, () -> x.cloud(50));
        Check.due("11 the last day", 2000, () -> x.day());
    }

    private static void book() {
        Delaylens x = flickered(150, 0);
        Check.due("12 measured", 150, () -> x.measured(0, 0, 1));
        Check.due("12 bookings", 1, () -> x.book(0, 0, 0, 1));
        Check.due("12 bookings of both", 2, () -> x.book(1, 0, 1, 0));
        open(x);
        Check.due("12 16 times 20 by 150", 2, () -> x.booked(0));
        Check.due("12 not longer", Delaylens.NONE, () -> x.booked(1));
        Check.due("12 again", 3, () -> x.book(1, 0, 0, 1));
        Check.due("12 the last one", 2, () -> x.booked(1));
        Delaylens turned = flickered(150, 1);
        Check.due("12 measured the other way", 150, () -> turned.measured(0, 1, 0));
        turned.book(0, 0, 1, 0);
        open(turned);
        Check.due("12 the way is shorter", Delaylens.NONE, () -> turned.booked(0));
        Delaylens even = new Delaylens();
        even.mass(Delaylens.HALO, 0, 0, 4);
        even.source(1, 0, 10);
        even.book(0, 0, 0, 1);
        for (int i = 0; i < 3; i++) {
            even.frame();
            even.pass(1);
        }
        Check.due("12 measured 0", 0, () -> even.measured(0, 0, 1));
        even.book(1, 0, 0, 1);
        open(even);
        Check.due("12 a delay of NONE", Delaylens.NONE, () -> even.booked(0));
        Check.due("12 a delay of 0", Delaylens.NONE, () -> even.booked(1));
        Delaylens many = new Delaylens();
        many.mass(Delaylens.SHEAR, 0, 0, 8);
        many.source(0, 0, 10);
        for (int i = 0; i < 5; i++) {
            many.frame();
            many.pass(1);
        }
        Check.due("12 above 5", 1, () -> many.book(0, 0, 6, 0));
        Check.due("12 above 5", 2, () -> many.book(0, 0, 0, 20));
        open(many);
        Check.due("12 above 5", Delaylens.NONE, () -> many.booked(0));
    }

    private static void bookByWays() {
        Delaylens x = near();
        flicker(x, 0, 1);
        Check.due("12 measured", 3, () -> x.measured(0, 0, 1));
        x.book(0, 0, 0, 1);
        Delaylens longer = near();
        flicker(longer, 1, 2);
        Check.due("12 measured", 3, () -> longer.measured(0, 1, 2));
        longer.book(0, 0, 1, 2);
        open(x);
        open(longer);
        Check.due("12 ways alike", Delaylens.NONE, () -> x.booked(0));
        Check.due("12 longer by 1", 20 / 3, () -> longer.booked(0));
    }

    /** The images' ways are -7, -7 and -6. */
    private static Delaylens near() {
        Delaylens x = new Delaylens();
        x.mass(Delaylens.HALO, 0, 0, 2);
        x.source(1, 1, 10);
        return x;
    }

    private static void bookArguments() {
        Delaylens x = flickered(150, 0);
        Check.thrown("12 no house", Check.INDEX, () -> x.book(-1, 0, 0, 0));
        Check.thrown("12 no house", Check.INDEX, () -> x.book(2, 0, 0, 1));
        Check.thrown("12 no source", Check.INDEX, () -> x.book(0, 1, 0, 1));
        Check.thrown("12 no source", Check.INDEX, () -> x.book(0, -1, 0, 1));
        Check.thrown("12 no image", Check.INDEX, () -> x.book(0, 0, -1, 1));
        Check.thrown("12 no image", Check.INDEX, () -> x.book(0, 0, 2, 1));
        Check.thrown("12 no other image", Check.INDEX, () -> x.book(0, 0, 0, -1));
        Check.thrown("12 no other image", Check.INDEX, () -> x.book(0, 0, 0, 2));
        Check.thrown("12 neither", Check.INDEX, () -> x.book(0, 0, 2, 2));
        Check.thrown("12 the same", Check.ARGUMENT, () -> x.book(0, 0, 1, 1));
        Check.thrown("12 nothing was booked", Check.STATE, () -> x.isFresh(0) ? 1 : 0);
        Check.due("12 the first", 1, () -> x.book(1, 0, 0, 1));
    }

    private static void vote() {
        Delaylens x = new Delaylens();
        Check.thrown("13 no mind", Check.INDEX, () -> voted(x, -1, true));
        Check.thrown("13 no mind", Check.INDEX, () -> voted(x, 5, true));
        Check.due("13 against", 0, () -> voted(x, 0, false));
        Check.due("13 one", 0, () -> voted(x, 0, true));
        Check.due("13 the same again", 0, () -> voted(x, 0, true));
        Check.due("13 the same again", 0, () -> voted(x, 0, true));
        Check.due("13 two", 0, () -> voted(x, 4, true));
        Check.due("13 one again", 0, () -> voted(x, 0, false));
        Check.due("13 two again", 0, () -> voted(x, 2, true));
        Check.thrown("13 blind", Check.STATE, () -> x.dispute());
        Check.due("13 three", 1, () -> voted(x, 1, true));
        Check.due("13 that stays", 1, () -> voted(x, 1, false));
        Check.due("13 that stays", 1, () -> voted(x, 2, false));
        Check.due("13 that stays", 1, () -> voted(x, 4, false));
        Check.due("13 open", Delaylens.NONE, () -> x.booked(0));
    }

    private static void place(String what, Delaylens x, int column, int row, int fromColumn, int fromRow) {
        Check.due(what + ", column", fromColumn, () -> x.from(column, row, false));
        Check.due(what + ", row", fromRow, () -> x.from(column, row, true));
    }

    private static long crossed(Delaylens x, int source, int rank, int width, int height) {
        x.cross(source, rank, width, height);
        return 0;
    }

    private static long seasoned(Delaylens x, int from, int to) {
        x.season(from, to);
        return 0;
    }

    private static long voted(Delaylens x, int mind, boolean isFor) {
        return x.vote(mind, isFor) ? 1 : 0;
    }

    private static void open(Delaylens x) {
        x.vote(0, true);
        x.vote(1, true);
        x.vote(2, true);
    }

    /** Two images; a star crosses the first one given by rank, and days later another star the other one. */
    static Delaylens flickered(int days, int rank) {
        Delaylens x = new Delaylens();
        x.mass(Delaylens.HALO, 0, 0, 4);
        x.source(1, 0, 10);
        bump(x, rank);
        x.pass(Math.min(days - 2, 100));
        if (days - 2 > 100) {
            x.pass(days - 2 - 100);
        }
        bump(x, 1 - rank);
        return x;
    }

    /** On 8 days with frames, both images are bumped twice, the other one 3 days later than the one. */
    static void flicker(Delaylens x, int one, int other) {
        int[] ranks = {one, -1, one, other, -1, other, -1, -1};
        for (int rank : ranks) {
            if (rank >= 0) {
                x.cross(0, rank, 1, 12 * Math.abs(x.imageOf(0, rank, 2)));
            }
            x.frame();
            x.pass(1);
        }
    }

    private static void bump(Delaylens x, int rank) {
        x.cross(0, rank, 1, 24);
        x.frame();
        x.pass(1);
        x.frame();
        x.pass(1);
        x.frame();
    }
}

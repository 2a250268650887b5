/** Promises 14 to 28: what is asked. The answers that are due were worked out by hand from the document. */
public final class AskedTest {
    public static void main(String[] args) {
        day();
        from();
        images();
        imageOf();
        ranks();
        signs();
        beyondTheField();
        hitsAndLost();
        delay();
        light();
        frames();
        seen();
        measured();
        measuredByPairs();
        measuredPairsAreCounted();
        measuredArguments();
        booked();
        isFresh();
        dispute();
        Check.end();
    }

    private static void day() {
        Delaylens x = new Delaylens();
        Check.due("14 first", 0, () -> x.day());
        x.pass(3);
        x.pass(100);
        Check.due("14 then", 103, () -> x.day());
    }

    private static void from() {
        Delaylens x = new Delaylens();
        for (int[] wrong : new int[][] {{-11, 0}, {11, 0}, {0, -11}, {0, 11}, {Integer.MAX_VALUE, Integer.MIN_VALUE}}) {
            Check.thrown("15 column", Check.ARGUMENT, () -> x.from(wrong[0], wrong[1], false));
            Check.thrown("15 row", Check.ARGUMENT, () -> x.from(wrong[0], wrong[1], true));
        }
        x.mass(Delaylens.SHEAR, -10, -10, 8);
        Check.due("15 column", -10, () -> x.from(10, 10, false));
        Check.due("15 beyond the field", 30, () -> x.from(10, 10, true));
        x.mass(Delaylens.HALO, 0, 0, 3);
        Check.due("15 together", -10 - 1, () -> x.from(10, 10, false));
        Check.due("15 together", 30 - 1, () -> x.from(10, 10, true));
    }

    private static void images() {
        Delaylens x = new Delaylens();
        x.source(0, 0, 1);
        x.source(0, 3, 1);
        Check.due("16 no mass", 1, () -> x.images(0));
        Check.due("17 no mass", 1, () -> x.imagesAnew(0));
        Check.thrown("16 no source", Check.INDEX, () -> x.images(-1));
        Check.thrown("16 no source", Check.INDEX, () -> x.images(2));
        Check.thrown("17 no source", Check.INDEX, () -> x.imagesAnew(-1));
        Check.thrown("17 no source", Check.INDEX, () -> x.imagesAnew(2));
        x.mass(Delaylens.SHEAR, 0, 0, 8);
        Check.due("16 a row of images", 21, () -> x.images(0));
        Check.due("17 a row of images", 21, () -> x.imagesAnew(0));
        Check.due("16 none", 0, () -> x.images(1));
        Check.due("17 none", 0, () -> x.imagesAnew(1));
        Check.thrown("22 no image", Check.INDEX, () -> x.light(1, 0));
    }

    private static void imageOf() {
        Delaylens x = new Delaylens();
        x.mass(Delaylens.HALO, 0, 0, 3);
        x.source(2, 0, 50);
        told("18 first", x, 0, 5, 0, 24, 15, 0);
        told("18 second", x, 1, -1, 0, 24, 39, 6);
        Check.thrown("18 no source", Check.INDEX, () -> x.imageOf(1, 0, 0));
        Check.thrown("18 no source", Check.INDEX, () -> x.imageOf(-1, 0, 5));
        Check.thrown("18 no image", Check.INDEX, () -> x.imageOf(0, 2, 0));
        Check.thrown("18 no image", Check.INDEX, () -> x.imageOf(0, -1, -1));
        Check.thrown("18 what", Check.ARGUMENT, () -> x.imageOf(0, 0, -1));
        Check.thrown("18 what", Check.ARGUMENT, () -> x.imageOf(0, 0, 5));
    }

    private static void ranks() {
        Delaylens x = new Delaylens();
        x.mass(Delaylens.HALO, 0, 0, 3);
        x.source(0, 0, 1);
        int[][] want = {{-1, -1, -2, 0}, {1, -1, -2, 0}, {-1, 1, -2, 0}, {1, 1, -2, 0}, {0, 0, 0, 0}, {-1, -2, 7, 2},
            {1, -2, 7, 2}, {-2, -1, 7, 2}, {2, -1, 7, 2}, {-2, 1, 7, 2}, {2, 1, 7, 2}, {-1, 2, 7, 2}, {1, 2, 7, 2},
            {0, -3, 27, 8}, {-3, 0, 27, 8}, {3, 0, 27, 8}, {0, 3, 27, 8}};
        Check.due("18 images", want.length, () -> x.images(0));
        for (int i = 0; i < want.length; i++) {
            int rank = i;
            Check.due("18 column of " + rank, want[rank][0], () -> x.imageOf(0, rank, 0));
            Check.due("18 row of " + rank, want[rank][1], () -> x.imageOf(0, rank, 1));
            Check.due("18 way of " + rank, want[rank][2], () -> x.imageOf(0, rank, 3));
            Check.due("18 how late is " + rank, want[rank][3], () -> x.imageOf(0, rank, 4));
        }
    }

    private static void signs() {
        Delaylens x = new Delaylens();
        x.mass(Delaylens.STAR, 0, 0, 1);
        x.source(0, 0, 10);
        Check.due("18 images", 9, () -> x.images(0));
        told("18 upright", x, 0, 0, 0, 2, 0, 0);
        told("18 turned over", x, 1, -1, -1, -2, 6, 1);
        told("18 turned over", x, 2, 1, -1, -8, 6, 1);
        told("18 upright", x, 6, -2, 0, 8, 16, 4);
        told("18 upright", x, 7, 2, 0, 12, 16, 4);
        Check.due("22 without the sign", 80, () -> x.light(0, 2));
        Delaylens strong = new Delaylens();
        strong.mass(Delaylens.STAR, 0, 0, 8);
        strong.source(0, 0, 10);
        int rank = rankOf(strong, 0, 0);
        Check.due("18 24 by 961", 0, () -> strong.imageOf(0, rank, 2));
        Check.due("22 no light", 0, () -> strong.light(0, rank));
        Delaylens off = new Delaylens();
        off.mass(Delaylens.HALO, 0, 0, 5);
        off.source(1, 1, 10);
        told("18 first", off, 0, 3, 3, 24, -20, 0);
        told("18 -1 times -1 less 3 times 3", off, 3, -1, -1, -3, 20, 11);
        Delaylens flat = new Delaylens();
        flat.mass(Delaylens.SHEAR, 0, 0, 8);
        flat.source(0, 0, 10);
        told("18 a number of 0", flat, 1, -1, 0, 24, 5, 1);
        told("18 of one row", flat, 2, 1, 0, 24, 5, 1);
        told("18 the last", flat, 20, 10, 0, 24, 500, 142);
    }

    private static void beyondTheField() {
        Delaylens x = new Delaylens();
        x.mass(Delaylens.SHEAR, 0, 0, 4);
        x.source(5, 4, 1);
        told("18 inside", x, 0, 9, 3, 24, 85, 0);
        told("18 at column 10", x, 1, 10, 3, 12, 130, 12);
        Delaylens corner = new Delaylens();
        corner.mass(Delaylens.SHEAR, 0, 10, 8);
        corner.mass(Delaylens.SHEAR, 0, 10, 8);
        corner.source(-10, 10, 1);
        told("18 in the corner", corner, 0, 10, 10, -8, 2000, 0);
        Check.due("17 in the corner", 1, () -> corner.imagesAnew(0));
        Delaylens ends = new Delaylens();
        ends.source(-10, -10, 1);
        ends.source(10, 10, 1);
        Check.due("17 the first ray", 1, () -> ends.imagesAnew(0));
        Check.due("17 the last ray", 1, () -> ends.imagesAnew(1));
    }

    private static void hitsAndLost() {
        Delaylens x = new Delaylens();
        for (int[] wrong : new int[][] {{-11, 0}, {11, 0}, {0, -11}, {0, 11}}) {
            Check.thrown("19 out of range", Check.ARGUMENT, () -> x.hits(wrong[0], wrong[1]));
        }
        Check.due("19 no mass", 1, () -> x.hits(-10, 10));
        x.mass(Delaylens.SHEAR, 0, 0, 8);
        Check.due("19 all of a row", 21, () -> x.hits(0, -10));
        Check.due("19 not between", 0, () -> x.hits(0, 1));
        Check.due("19 not aside", 0, () -> x.hits(1, 0));
        Check.due("20 rows beyond", 210, () -> x.lost());
        Delaylens halo = new Delaylens();
        halo.mass(Delaylens.HALO, 0, 0, 3);
        Check.due("19 halo", 17, () -> halo.hits(0, 0));
        Check.due("20 none", 0, () -> halo.lost());
        Delaylens star = new Delaylens();
        star.mass(Delaylens.STAR, 10, 10, 8);
        Check.due("20 none", 0, () -> new Delaylens().lost());
        Check.due("20 pushed out", 18, () -> star.lost());
    }

    private static void delay() {
        Delaylens x = new Delaylens();
        x.mass(Delaylens.HALO, 0, 0, 3);
        x.source(0, 0, 1);
        Check.due("21 later", 8 - 2, () -> x.delay(0, 5, 13));
        Check.due("21 earlier", -8, () -> x.delay(0, 16, 4));
        Check.due("21 itself", 0, () -> x.delay(0, 7, 7));
        Check.due("21 each rounded for itself", 6, () -> x.delay(0, 12, 16));
        Check.thrown("21 no source", Check.INDEX, () -> x.delay(1, 0, 0));
        Check.thrown("21 no image", Check.INDEX, () -> x.delay(0, 17, 0));
        Check.thrown("21 no image", Check.INDEX, () -> x.delay(0, -1, 0));
        Check.thrown("21 no other image", Check.INDEX, () -> x.delay(0, 0, 17));
        Check.thrown("21 no other image", Check.INDEX, () -> x.delay(0, 0, -1));
        Delaylens flat = new Delaylens();
        flat.mass(Delaylens.SHEAR, 0, 0, 8);
        flat.source(0, 0, 1);
        Check.due("21 5 less 1", 4, () -> flat.delay(0, 1, 3));
    }

    private static void light() {
        Delaylens x = new Delaylens();
        x.mass(Delaylens.HALO, 0, 0, 4);
        x.source(1, 0, 10);
        x.world(100);
        x.pass(10);
        x.flare(0, 5);
        x.pass(2);
        x.flare(0, -20);
        Check.due("22 today", 0, () -> x.light(0, 0));
        Check.due("22 ahead of the flares", 240, () -> x.light(0, 1));
        x.pass(1);
        Check.due("22 3 days late", 360, () -> x.light(0, 1));
        x.pass(1);
        Check.due("22 still", 360, () -> x.light(0, 1));
        x.pass(1);
        Check.due("22 the second flare", 0, () -> x.light(0, 1));
        Check.thrown("22 no source", Check.INDEX, () -> x.light(1, 0));
        Check.thrown("22 no source", Check.INDEX, () -> x.light(-1, 0));
        Check.thrown("22 no image", Check.INDEX, () -> x.light(0, 2));
        Check.thrown("22 no image", Check.INDEX, () -> x.light(0, -1));
        Delaylens early = new Delaylens();
        early.mass(Delaylens.SHEAR, 0, 0, 8);
        early.source(0, 0, 10);
        early.flare(0, 90);
        Check.due("22 ahead of day 0", 240, () -> early.light(0, 20));
        Check.due("22 day 0", 2400, () -> early.light(0, 0));
    }

    private static void frames() {
        Delaylens x = new Delaylens();
        Check.due("23 none", 0, () -> x.frames());
        x.frame();
        x.pass(1);
        x.frame();
        Check.due("23 two", 2, () -> x.frames());
        x.mass(Delaylens.HALO, 0, 0, 2);
        Check.due("23 gone", 0, () -> x.frames());
        x.frame();
        Check.due("23 one", 1, () -> x.frames());
        x.two(0, 0, 0);
        Check.due("23 gone again", 0, () -> x.frames());
    }

    private static void seen() {
        Delaylens x = new Delaylens();
        x.mass(Delaylens.SHEAR, 0, 0, 8);
        x.source(0, 0, 10);
        x.frame();
        x.source(2, 2, 10);
        x.source(0, 2, 30);
        x.flare(0, 10);
        x.pass(1);
        x.cross(0, 5, 1, 7);
        x.pass(1);
        x.frame();
        for (int i = 0; i < 6; i++) {
            int rank = i;
            Check.due("24 on day 0", 240, () -> x.seen(0, 0, rank));
            Check.due("24 on day 2", rank < 3 ? 480 : rank < 5 ? 240 : 247, () -> x.seen(1, 0, rank));
            Check.due("24 told later", Delaylens.NONE, () -> x.seen(0, 2, rank));
            Check.due("24 another source", 720, () -> x.seen(1, 2, rank));
            Check.due("24 no such image", Delaylens.NONE, () -> x.seen(1, 1, rank));
        }
        Check.thrown("24 no frame", Check.INDEX, () -> x.seen(2, 0, 0));
        Check.thrown("24 no frame", Check.INDEX, () -> x.seen(-1, 0, 9));
        Check.thrown("24 no source", Check.INDEX, () -> x.seen(0, 3, 6));
        Check.thrown("24 no source", Check.INDEX, () -> x.seen(0, -1, 0));
        Check.thrown("24 rank", Check.ARGUMENT, () -> x.seen(0, 0, 6));
        Check.thrown("24 rank", Check.ARGUMENT, () -> x.seen(0, 0, -1));
        x.source(4, 4, 1);
        x.source(0, -2, 100);
        x.pass(1);
        x.frame();
        Check.due("24 the fifth source", 2400, () -> x.seen(2, 4, 5));
        x.mass(Delaylens.HALO, 0, 0, 1);
        Check.thrown("24 gone", Check.INDEX, () -> x.seen(0, 0, 0));
    }

    private static void measured() {
        Delaylens x = new Delaylens();
        x.mass(Delaylens.HALO, 0, 0, 4);
        x.source(1, 0, 30);
        x.world(100);
        Check.due("25 no frames", Delaylens.NONE, () -> x.measured(0, 0, 1));
        x.frame();
        for (int more : new int[] {30, -50}) {
            x.pass(1);
            x.flare(0, more);
            x.frame();
        }
        Check.due("25 three frames with themselves", 0, () -> x.measured(0, 0, 1));
        x.pass(1);
        x.frame();
        x.pass(1);
        x.flare(0, 70);
        x.frame();
        x.pass(1);
        x.frame();
        Check.due("25 the true delay", 3, () -> x.measured(0, 0, 1));
        Check.due("25 the other way", 0, () -> x.measured(0, 1, 0));
        Check.due("25 150 days", 150, () -> ToldTest.flickered(150, 0).measured(0, 0, 1));
        Check.due("25 151 days are too long", 0, () -> ToldTest.flickered(151, 0).measured(0, 0, 1));
    }

    /** On 10 days the images differ by 9 in all on like days, by 8 a day apart: 9/10 is more than 8/9. */
    private static void measuredByPairs() {
        Delaylens x = new Delaylens();
        x.mass(Delaylens.HALO, 0, 0, 4);
        x.source(1, 0, 10);
        for (int today = 0; today < 10; today++) {
            if (today != 1) {
                x.cross(0, 1, 1, 1);
            }
            x.pass(1);
            x.frame();
        }
        Check.due("25 divided exactly", 1, () -> x.measured(0, 0, 1));
        x.book(1, 0, 0, 1);
        for (int mind = 0; mind < 3; mind++) {
            x.vote(mind, true);
        }
        Check.due("12 by 1 day", 16 * 20, () -> x.booked(1));
        Delaylens even = new Delaylens();
        even.mass(Delaylens.HALO, 0, 0, 4);
        even.source(1, 0, 10);
        for (int i = 0; i < 10; i++) {
            even.pass(2);
            even.frame();
        }
        Check.due("25 the lowest of several", 0, () -> even.measured(0, 0, 1));
    }

    private static void measuredPairsAreCounted() {
        Delaylens x = new Delaylens();
        x.mass(Delaylens.SHEAR, 0, 0, 8);
        x.frame();
        x.pass(1);
        x.frame();
        x.source(0, 0, 10);
        x.pass(1);
        x.frame();
        x.pass(1);
        x.frame();
        Check.due("25 two pairs", Delaylens.NONE, () -> x.measured(0, 0, 1));
        x.pass(1);
        x.frame();
        Check.due("25 three pairs", 0, () -> x.measured(0, 0, 1));
        x.mass(Delaylens.SHEAR, 0, 0, 1);
        Check.due("25 worthless", Delaylens.NONE, () -> x.measured(0, 0, 1));
        for (int[] ranks : new int[][] {{0, 2}, {2, 0}, {1, 2}, {0, 1}}) {
            Delaylens star = new Delaylens();
            star.mass(Delaylens.STAR, 0, 0, 1);
            star.source(0, 0, 5);
            ToldTest.flicker(star, ranks[0], ranks[1]);
            Check.due("25 weighed by brightness without signs", 3, () -> star.measured(0, ranks[0], ranks[1]));
        }
    }

    private static void measuredArguments() {
        Delaylens x = new Delaylens();
        x.mass(Delaylens.SHEAR, 0, 0, 8);
        x.source(0, 0, 10);
        Check.thrown("25 no source", Check.INDEX, () -> x.measured(1, 0, 1));
        Check.thrown("25 no source", Check.INDEX, () -> x.measured(-1, 0, 0));
        Check.thrown("25 no image", Check.INDEX, () -> x.measured(0, -1, 0));
        Check.thrown("25 no image", Check.INDEX, () -> x.measured(0, 21, 0));
        Check.thrown("25 no other image", Check.INDEX, () -> x.measured(0, 0, 21));
        Check.thrown("25 no other image", Check.INDEX, () -> x.measured(0, 6, -1));
        Check.thrown("25 the same", Check.ARGUMENT, () -> x.measured(0, 2, 2));
        Check.thrown("25 above 5", Check.ARGUMENT, () -> x.measured(0, 6, 0));
        Check.thrown("25 above 5", Check.ARGUMENT, () -> x.measured(0, 0, 6));
        Check.thrown("25 above 5", Check.ARGUMENT, () -> x.measured(0, 0, 20));
        Check.due("25 up to 5", Delaylens.NONE, () -> x.measured(0, 5, 4));
    }

    private static void booked() {
        Delaylens x = ToldTest.flickered(150, 0);
        x.book(0, 0, 0, 1);
        Check.thrown("26 no house", Check.INDEX, () -> x.booked(-1));
        Check.thrown("26 no house", Check.INDEX, () -> x.booked(2));
        Check.thrown("26 blind", Check.STATE, () -> x.booked(0));
        x.vote(0, true);
        x.vote(1, true);
        Check.thrown("26 still blind", Check.STATE, () -> x.booked(0));
        x.vote(2, true);
        Check.due("26 the growth", 2, () -> x.booked(0));
        Check.due("26 booked nothing", Delaylens.NONE, () -> x.booked(1));
        x.mass(Delaylens.HALO, 10, 10, 1);
        Check.due("26 still the growth", 2, () -> x.booked(0));
        x.book(0, 0, 0, 1);
        Check.due("26 the last one", Delaylens.NONE, () -> x.booked(0));
    }

    private static void isFresh() {
        Delaylens x = ToldTest.flickered(150, 0);
        Check.thrown("27 no house", Check.INDEX, () -> fresh(x, -1));
        Check.thrown("27 no house", Check.INDEX, () -> fresh(x, 2));
        Check.thrown("27 booked nothing", Check.STATE, () -> fresh(x, 0));
        x.book(0, 0, 0, 1);
        Check.due("27 blind, but fresh", 1, () -> fresh(x, 0));
        Check.thrown("27 the other house", Check.STATE, () -> fresh(x, 1));
        x.source(5, 5, 5);
        x.flare(0, 5);
        x.pass(1);
        Check.due("27 the masses are as they were", 1, () -> fresh(x, 0));
        x.two(0, 0, 0);
        Check.due("27 a mass is two", 0, () -> fresh(x, 0));
        x.book(1, 0, 0, 1);
        Check.due("27 NONE was booked", 1, () -> fresh(x, 1));
        Check.due("27 not by the one", 0, () -> fresh(x, 0));
        x.mass(Delaylens.HALO, 10, 10, 1);
        Check.due("27 another mass", 0, () -> fresh(x, 1));
        x.book(0, 0, 0, 1);
        Check.due("27 booked again", 1, () -> fresh(x, 0));
    }

    private static void dispute() {
        Delaylens x = ToldTest.flickered(150, 0);
        x.book(0, 0, 0, 1);
        Check.thrown("28 blind", Check.STATE, () -> x.dispute());
        x.vote(0, true);
        x.vote(3, true);
        x.vote(4, true);
        Check.due("28 one booked nothing", Delaylens.NONE, () -> x.dispute());
        x.book(1, 0, 0, 1);
        Check.due("28 they agree", 0, () -> x.dispute());
        // This makes frames worthless; the images' ways are 13 and 45 then.
        x.mass(Delaylens.HALO, -10, 0, 1);
        ToldTest.flicker(x, 0, 1);
        Check.due("28 measured anew", 3, () -> x.measured(0, 0, 1));
        x.book(1, 0, 0, 1);
        long other = 32 * 20 / 3;
        Check.due("28 another number", other, () -> x.booked(1));
        Check.due("28 apart", other - 2, () -> x.dispute());
        x.book(0, 0, 0, 1);
        Check.due("28 agreed again", 0, () -> x.dispute());
        x.book(0, 0, 1, 0);
        Check.due("28 one is NONE", Delaylens.NONE, () -> x.dispute());
    }

    private static long fresh(Delaylens x, int house) {
        return x.isFresh(house) ? 1 : 0;
    }

    private static int rankOf(Delaylens x, int column, int row) {
        for (int i = 0; i < x.images(0); i++) {
            if (x.imageOf(0, i, 0) == column && x.imageOf(0, i, 1) == row) {
                return i;
            }
        }
        return -1;
    }

    private static void told(String what, Delaylens x, int rank, int... want) {
        for (int i = 0; i < want.length; i++) {
            int asked = i;
            Check.due(what + ", " + asked, want[asked], () -> x.imageOf(0, rank, asked));
        }
    }
}

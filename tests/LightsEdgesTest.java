/**
 * What the document says ahead of the promises of lights, frames, delays and books, sentence by sentence,
 * at the ends of each. Every answer that is due was worked out by hand.
 */
public final class LightsEdgesTest {
    public static void main(String[] args) {
        aFlareFromADayOn();
        firstLightAheadOfAllDays();
        allFlaresTogetherAre0AtLeast();
        lightWithoutTheSign();
        aStarByDays();
        starsAreDividedEachForItself();
        aStarIsToldByRank();
        aStarIsNotLate();
        seasonsInEach100Days();
        aSeasonOfOneDay();
        notCloudy();
        oneADay();
        at60Frames();
        lightsOfThatDay();
        theFirst6Images();
        framesAndStarsAreGone();
        delayOfAnImage();
        daysFrom0To150();
        threePairsOrMore();
        zeroDaysAreEachFrameWithItself();
        earlierOneAndLaterOther();
        timesTheBrightnessOfTheOther();
        sumsDividedExactly();
        theLowestOfSeveral();
        framesWithoutTheImage();
        booksNone();
        booksTheLeast();
        blindUntil3Minds();
        howFarApart();
        Check.end();
    }

    /** "A flare makes a source brighter, or less bright, by some from a day on" */
    private static void aFlareFromADayOn() {
        Delaylens x = Sky.pair(50);
        x.pass(10);
        x.flare(0, 10);
        Check.due("today", 24 * 60, () -> x.light(0, 0));
        for (int late = 0; late < 6; late++) {
            Check.due("not yet where it is 6 days late", 24 * 50, () -> x.light(0, 1));
            x.pass(1);
        }
        Check.due("6 days later", 24 * 60, () -> x.light(0, 1));
        x.flare(0, -30);
        Check.due("less bright today", 24 * 30, () -> x.light(0, 0));
        x.pass(5);
        Check.due("not yet", 24 * 60, () -> x.light(0, 1));
        x.pass(1);
        Check.due("6 days later again", 24 * 30, () -> x.light(0, 1));
        x.pass(100);
        Check.due("that stays", 24 * 30, () -> x.light(0, 1));
    }

    /** "its light is what it was told at first, also on days ahead of that" */
    private static void firstLightAheadOfAllDays() {
        Delaylens x = Sky.pair(50);
        Check.due("6 days ahead of day 0", 24 * 50, () -> x.light(0, 1));
        x.flare(0, 1);
        Check.due("ahead of a flare on day 0", 24 * 50, () -> x.light(0, 1));
        x.pass(5);
        Check.due("a day ahead of it", 24 * 50, () -> x.light(0, 1));
        x.pass(1);
        Check.due("day 0", 24 * 51, () -> x.light(0, 1));
        x.source(0, 2, 7);
        Check.due("ahead of the day on which it was told", 24 * 7, () -> x.light(1, 1));
        Delaylens far = Sky.flat(100);
        far.world(40);
        far.flare(0, -100);
        Check.due("250 days ahead of day 0", 2400, () -> far.light(0, 20));
        Sky.pass(far, 249);
        Check.due("a day ahead of day 0", 2400, () -> far.light(0, 20));
        far.pass(1);
        Check.due("day 0", 0, () -> far.light(0, 20));
    }

    /** "and all flares up to a day, together, 0 at least" */
    private static void allFlaresTogetherAre0AtLeast() {
        Delaylens x = new Delaylens();
        x.source(0, 0, 1);
        Check.due("0", 0, () -> x.flare(0, -1));
        Check.due("-1 would be below 0", 0, () -> x.flare(0, -1));
        Check.due("no light", 0, () -> x.light(0, 0));
        Check.due("together 0", 0, () -> x.flare(0, 1));
        Check.due("together 1", 1, () -> x.flare(0, 1));
        Check.due("far below 0", 0, () -> x.flare(0, -100));
        Check.due("still -1", 0, () -> x.flare(0, 98));
        Check.due("up to 2", 2, () -> x.flare(0, 3));
        Check.due("its light", 48, () -> x.light(0, 0));
        Delaylens y = new Delaylens();
        y.source(0, 0, 100);
        for (int i = 1; i <= 40; i++) {
            int want = 100 + 100 * i;
            Check.due("no end above", want, () -> y.flare(0, 100));
        }
        Check.due("all together", 24 * 4100, () -> y.light(0, 0));
    }

    /** "The light of an image on a day is its number of times, without the sign, times the light ..." */
    private static void lightWithoutTheSign() {
        Delaylens x = new Delaylens();
        x.mass(Delaylens.STAR, 0, 0, 1);
        x.source(0, 0, 10);
        int[] bright = {2, -2, -8, -8, 8, 8, 8, 12, 12};
        for (int i = 0; i < bright.length; i++) {
            int rank = i;
            Check.due("how bright is " + rank, bright[rank], () -> x.imageOf(0, rank, 2));
            Check.due("light of " + rank, Math.abs(bright[rank]) * 10, () -> x.light(0, rank));
        }
        x.cross(0, 2, 1, 5);
        x.pass(1);
        Check.due("a star makes one that is turned over brighter", 85, () -> x.light(0, 2));
        Delaylens none = new Delaylens();
        none.mass(Delaylens.HALO, 0, 0, 6);
        none.source(0, 0, 100);
        int rank = Sky.rankOf(none, 0, 0, 0);
        Check.due("0 times as bright", 0, () -> none.light(0, rank));
        none.cross(0, rank, 1, 5);
        none.pass(1);
        Check.due("but for a star", 5, () -> none.light(0, rank));
    }

    /** "by the height times what the width has more than the days by which the day is off the middle, ..." */
    private static void aStarByDays() {
        starByDays(1, 1, 0, 1, 0, 0, 0);
        starByDays(1, 1000, 0, 1000, 0, 0, 0);
        starByDays(2, 1, 0, 0, 1, 0, 0, 0, 0);
        starByDays(2, 3, 0, 1, 3, 1, 0, 0, 0, 0, 0);
        starByDays(3, 100, 0, 33, 66, 100, 66, 33, 0, 0, 0, 0);
        int[][] wide = {{0, 0}, {1, 20}, {49, 980}, {50, 1000}, {51, 980}, {99, 20}, {100, 0}, {101, 0}, {150, 0}, {2000, 0}};
        for (int[] w : wide) {
            Delaylens x = crossed(50, 1000);
            Sky.pass(x, w[0]);
            Check.due("50 wide, day " + w[0], 24 + w[1], () -> x.light(0, 0));
        }
        int[][] faint = {{0, 0}, {25, 0}, {49, 0}, {50, 1}, {51, 0}, {99, 0}};
        for (int[] f : faint) {
            Delaylens x = crossed(50, 1);
            Sky.pass(x, f[0]);
            Check.due("50 wide, 1 high, day " + f[0], 24 + f[1], () -> x.light(0, 0));
        }
    }

    private static void starByDays(int width, int height, int... more) {
        Delaylens x = crossed(width, height);
        for (int i = 0; i < more.length; i++) {
            int want = 24 + more[i];
            Check.due(width + " wide, " + height + " high, day " + i, want, () -> x.light(0, 0));
            x.pass(1);
        }
    }

    private static Delaylens crossed(int width, int height) {
        Delaylens x = new Delaylens();
        x.source(0, 0, 1);
        x.cross(0, 0, width, height);
        return x;
    }

    private static void starsAreDividedEachForItself() {
        Delaylens x = crossed(2, 1);
        x.cross(0, 0, 2, 1);
        x.pass(1);
        Check.due("1/2 and 1/2", 24, () -> x.light(0, 0));
        x.cross(0, 0, 1, 10);
        x.pass(1);
        Check.due("1 and 1 and 10", 36, () -> x.light(0, 0));
        Delaylens full = crossed(1, 1000);
        for (int i = 1; i < 20; i++) {
            full.cross(0, 0, 1, 1000);
        }
        full.pass(1);
        Check.due("20 stars at once", 24 + 20000, () -> full.light(0, 0));
    }

    /** "A star that crosses an image, told by its rank" */
    private static void aStarIsToldByRank() {
        Delaylens x = Sky.flat(1);
        x.source(3, 0, 1);
        x.source(0, 4, 1);
        x.cross(0, 0, 1, 3);
        x.cross(0, 20, 1, 7);
        x.pass(1);
        for (int i = 0; i < 21; i++) {
            int rank = i;
            Check.due("rank " + rank, 24 + (rank == 0 ? 3 : rank == 20 ? 7 : 0), () -> x.light(0, rank));
        }
        Check.due("another source", 24, () -> x.light(2, 0));
    }

    /** "makes it brighter from the day on which that is told" */
    private static void aStarIsNotLate() {
        Delaylens x = Sky.pair(10);
        x.cross(0, 1, 1, 100);
        x.pass(1);
        Check.due("not 6 days later", 240 + 100, () -> x.light(0, 1));
        x.pass(1);
        Check.due("over", 240, () -> x.light(0, 1));
        x.pass(5);
        Check.due("over where it would be late", 240, () -> x.light(0, 1));
    }

    /** "There are seasons: in each 100 days, those from one to another one, 0 and 99 at first." */
    private static void seasonsInEach100Days() {
        for (int day : new int[] {0, 1, 50, 98, 99, 100, 101, 199, 200, 1000, 1900, 1999, 2000}) {
            Check.due("at first, day " + day, 0, () -> on(day, 0, 99).frame());
            Check.due("0 to 99, day " + day, 0, () -> on(day, -1, 0).frame());
        }
        for (int day : new int[] {30, 31, 39, 40, 130, 140, 1930, 1940}) {
            Check.due("30 to 40, day " + day, 0, () -> on(day, 30, 40).frame());
        }
        for (int day : new int[] {0, 29, 41, 99, 100, 129, 141, 1929, 1941, 2000}) {
            Check.thrown("30 to 40, day " + day, Check.STATE, () -> on(day, 30, 40).frame());
        }
    }

    private static void aSeasonOfOneDay() {
        for (int day : new int[] {0, 100, 200, 2000}) {
            Check.due("0 to 0, day " + day, 0, () -> on(day, 0, 0).frame());
            Check.thrown("99 to 99, day " + day, Check.STATE, () -> on(day, 99, 99).frame());
            Check.thrown("1 to 99, day " + day, Check.STATE, () -> on(day, 1, 99).frame());
        }
        for (int day : new int[] {99, 199, 1999}) {
            Check.due("99 to 99, day " + day, 0, () -> on(day, 99, 99).frame());
            Check.thrown("0 to 0, day " + day, Check.STATE, () -> on(day, 0, 0).frame());
            Check.thrown("0 to 98, day " + day, Check.STATE, () -> on(day, 0, 98).frame());
        }
    }

    /** A new object on a day; from below 0: no season was told. */
    private static Delaylens on(int day, int from, int to) {
        Delaylens x = new Delaylens();
        if (from >= 0) {
            x.season(from, to);
        }
        Sky.pass(x, day);
        return x;
    }

    /** "A frame can be taken on a day of the season that is not cloudy" */
    private static void notCloudy() {
        for (int days = 0; days <= 50; days++) {
            Delaylens x = on(3, 0, 99);
            int clear = 3 + days;
            int cloudy = days;
            Check.due("first clear day", clear, () -> x.cloud(cloudy));
            if (days > 0) {
                Sky.pass(x, days - 1);
                Check.thrown("the last of " + days + " cloudy days", Check.STATE, () -> x.frame());
                x.pass(1);
            }
            Check.due("clear after " + days, 0, () -> x.frame());
        }
        Delaylens both = on(30, 31, 40);
        both.cloud(1);
        Check.thrown("cloudy, and out of season", Check.STATE, () -> both.frame());
        both.cloud(0);
        Check.thrown("clear, and out of season", Check.STATE, () -> both.frame());
        both.pass(1);
        both.cloud(1);
        Check.thrown("cloudy, in season", Check.STATE, () -> both.frame());
        both.cloud(0);
        Check.due("clear, in season", 0, () -> both.frame());
    }

    /** "one a day" */
    private static void oneADay() {
        Delaylens x = new Delaylens();
        Check.due("the first of day 0", 0, () -> x.frame());
        Check.thrown("a second of day 0", Check.STATE, () -> x.frame());
        x.pass(1);
        Check.due("the first of day 1", 1, () -> x.frame());
        Check.thrown("a second of day 1", Check.STATE, () -> x.frame());
        x.mass(Delaylens.STAR, 0, 0, 2);
        Check.due("the first one is gone", 0, () -> x.frame());
        Check.thrown("a second that is not gone", Check.STATE, () -> x.frame());
        x.two(0, 0, 0);
        Check.due("that one is gone", 0, () -> x.frame());
        Check.due("frames", 1, () -> x.frames());
    }

    /** "at most 60" */
    private static void at60Frames() {
        Delaylens x = Sky.pair(3);
        Sky.frames(x, 59);
        Check.due("59", 59, () -> x.frames());
        Check.thrown("the 60th is not there yet", Check.INDEX, () -> x.seen(59, 0, 0));
        Check.due("the 60th", 59, () -> x.frame());
        Check.due("its light", 72, () -> x.seen(59, 0, 0));
        x.pass(1);
        Check.thrown("a 61st", Check.STATE, () -> x.frame());
        Check.due("60", 60, () -> x.frames());
        Check.thrown("no 61st", Check.INDEX, () -> x.seen(60, 0, 0));
        x.mass(Delaylens.HALO, 10, 10, 1);
        for (int i = 0; i < 60; i++) {
            int number = i;
            Check.due("60 again", number, () -> x.frame());
            x.pass(1);
        }
        Check.thrown("a 61st again", Check.STATE, () -> x.frame());
    }

    /** "it has the lights of that day" */
    private static void lightsOfThatDay() {
        Delaylens x = Sky.pair(10);
        x.cross(0, 1, 2, 100);
        x.frame();
        x.flare(0, 20);
        x.pass(2);
        x.frame();
        x.flare(0, -30);
        x.pass(4);
        x.frame();
        int[][] want = {{240, 240}, {720, 340}, {0, 720}};
        for (int i = 0; i < 3; i++) {
            int frame = i;
            Check.due("the first image in " + frame, want[frame][0], () -> x.seen(frame, 0, 0));
            Check.due("the second image in " + frame, want[frame][1], () -> x.seen(frame, 0, 1));
        }
    }

    /** "of the first 6 images of each source" */
    private static void theFirst6Images() {
        Delaylens x = Sky.flat(2);
        x.source(0, 2, 3);
        x.source(0, -2, 4);
        x.source(0, 4, 5);
        x.source(0, 20 - 10, 6);
        x.cross(0, 5, 1, 9);
        x.pass(1);
        x.frame();
        for (int i = 0; i < 5; i++) {
            int source = i;
            Check.due("the first image", 24 * (2 + source), () -> x.seen(0, source, 0));
            Check.due("the sixth image", 24 * (2 + source) + (source == 0 ? 9 : 0), () -> x.seen(0, source, 5));
            Check.thrown("a seventh image", Check.ARGUMENT, () -> x.seen(0, source, 6));
        }
        Delaylens two = Sky.pair(10);
        two.frame();
        Check.due("the last image", 240, () -> two.seen(0, 0, 1));
        for (int i = 2; i < 6; i++) {
            int rank = i;
            Check.due("no such image", Delaylens.NONE, () -> two.seen(0, 0, rank));
        }
    }

    /** "When a mass is told, or is told to be two, all frames and stars that cross are gone." */
    private static void framesAndStarsAreGone() {
        for (int way = 0; way < 2; way++) {
            Delaylens x = Sky.pair(10);
            x.season(0, 50);
            x.world(80);
            x.flare(0, 5);
            x.source(-5, 7, 20);
            x.cross(0, 0, 1, 7);
            x.cross(0, 1, 50, 1000);
            x.cross(1, 0, 2, 50);
            x.pass(1);
            x.frame();
            x.book(1, 0, 0, 1);
            x.vote(0, true);
            Check.due("a star ahead", 24 * 15 + 7, () -> x.light(0, 0));
            Check.due("a number", 1, way == 0 ? () -> x.mass(Delaylens.SHEAR, 0, 0, 1) : () -> x.two(0, 0, 0));
            Check.due("no frames", 0, () -> x.frames());
            Check.thrown("no frame", Check.INDEX, () -> x.seen(0, 0, 0));
            for (int i = 0; i < x.images(0); i++) {
                int rank = i;
                int bright = Math.abs(x.imageOf(0, rank, 2));
                int flared = x.imageOf(0, rank, 4) <= 1 ? 15 : 10;
                Check.due("no star, but the flare", bright * flared, () -> x.light(0, rank));
            }
            Check.due("sources are not gone", 20, () -> x.flare(1, 0));
            Check.due("a frame of the same day", 0, () -> x.frame());
            Check.due("nor are bookings", 2, () -> x.book(0, 0, 0, 1));
            x.vote(1, true);
            Check.due("nor votes", 1, () -> x.vote(2, true) ? 1 : 0);
            x.pass(50);
            Check.thrown("nor the season", Check.STATE, () -> x.frame());
            x.mass(Delaylens.HALO, 5, 5, 1);
            Check.due("nor the growth", 80, () -> x.world(80));
        }
    }

    /** "A delay of an image behind another one of its source is how many days it is later, by how late each is" */
    private static void delayOfAnImage() {
        Delaylens x = Sky.flat(1);
        int[] late = new int[21];
        for (int i = 0; i < 21; i++) {
            int aside = (i + 1) / 2;
            late[i] = 5 * aside * aside * 20 / 70;
        }
        for (int i = 0; i < 21; i++) {
            int rank = i;
            Check.due("behind the first", late[rank], () -> x.delay(0, 0, rank));
            Check.due("below 0 if it is earlier", -late[rank], () -> x.delay(0, rank, 0));
            Check.due("behind itself", 0, () -> x.delay(0, rank, rank));
            Check.due("behind the third", late[rank] - 1, () -> x.delay(0, 2, rank));
        }
    }

    /** "for each number of days, 0 to 150" */
    private static void daysFrom0To150() {
        for (int days : new int[] {3, 5, 10, 100, 149, 150}) {
            Check.due(days + " days", days, () -> bumped(days).measured(0, 0, 1));
        }
        for (int days : new int[] {151, 152, 300}) {
            Check.due(days + " days are not measured", 0, () -> bumped(days).measured(0, 0, 1));
        }
        Check.due("no star on either, 20 days apart", 20, () -> bumped(20).measured(0, 1, 0));
    }

    /** A star on the first image, and some days later one on the second; three frames of both. */
    private static Delaylens bumped(int days) {
        return bumped(days, 70);
    }

    private static Delaylens bumped(int days, int growth) {
        Delaylens x = Sky.pair(1);
        x.world(growth);
        Sky.bump(x, 0, 0, 24);
        Sky.pass(x, days - 2);
        Sky.bump(x, 0, 1, 24);
        return x;
    }

    /** "3 pairs or more" */
    private static void threePairsOrMore() {
        Delaylens x = Sky.pair(1);
        Check.due("no frame", Delaylens.NONE, () -> x.measured(0, 0, 1));
        for (int frames = 1; frames <= 3; frames++) {
            int want = frames < 3 ? Delaylens.NONE : 0;
            x.frame();
            Check.due(frames + " frames", want, () -> x.measured(0, 0, 1));
            x.pass(1);
        }
        Delaylens y = Sky.pair(1);
        Sky.bump(y, 0, 0, 24);
        y.pass(3);
        y.cross(0, 1, 1, 24);
        Sky.frames(y, 2);
        Check.due("two pairs 5 days apart", 0, () -> y.measured(0, 0, 1));
        y.frame();
        Check.due("three pairs 5 days apart", 5, () -> y.measured(0, 0, 1));
    }

    /** "for 0 days each frame with itself" */
    private static void zeroDaysAreEachFrameWithItself() {
        Delaylens x = Sky.pair(1);
        for (int i = 0; i < 3; i++) {
            x.frame();
            x.pass(30 + i);
        }
        Check.due("three frames that are never as many days apart", 0, () -> x.measured(0, 0, 1));
    }

    /** "where the earlier one has the one image, and the later one the other image" */
    private static void earlierOneAndLaterOther() {
        // Stars on the first image on days 1 and 8, on the second one on days 5 and 12.
        Delaylens x = Sky.pair(1);
        for (int today = 0; today <= 13; today++) {
            if (today == 0 || today == 7) {
                x.cross(0, 0, 1, 24);
            }
            if (today == 4 || today == 11) {
                x.cross(0, 1, 1, 24);
            }
            x.frame();
            x.pass(1);
        }
        Check.due("from 1 to 5 and from 8 to 12", 4, () -> x.measured(0, 0, 1));
        Check.due("from 5 to 8", 3, () -> x.measured(0, 1, 0));
    }

    /** "the light of the one image times the brightness of the other one, less ...; the brightnesses, without signs" */
    private static void timesTheBrightnessOfTheOther() {
        int[] bright = {2, -2, -8, -8, 8, 8};
        for (int one = 0; one < 6; one++) {
            for (int other = 0; other < 6; other++) {
                if (one != other) {
                    Delaylens x = new Delaylens();
                    x.mass(Delaylens.STAR, 0, 0, 1);
                    x.source(0, 0, 5);
                    Sky.bump(x, 0, one, Math.abs(bright[one]) * 3);
                    x.pass(3);
                    Sky.bump(x, 0, other, Math.abs(bright[other]) * 3);
                    int rank = one;
                    int behind = other;
                    Check.due(rank + " and " + behind, 5, () -> x.measured(0, rank, behind));
                }
            }
        }
    }

    /** "the one for which that is the least by pair, the sum divided by the number of pairs exactly" */
    private static void sumsDividedExactly() {
        // On ten days the images differ by 9 in all on like days, by 8 in nine pairs a day apart: 9/10 is more than 8/9.
        Delaylens x = Sky.pair(1);
        for (int today = 0; today < 10; today++) {
            if (today != 1) {
                x.cross(0, 1, 1, 1);
            }
            x.pass(1);
            x.frame();
        }
        Check.due("not rounded", 1, () -> x.measured(0, 0, 1));
        // By each pair as far apart: 4 pairs on like days, 3 pairs a day apart.
        Delaylens y = Sky.pair(1);
        for (int today = 0; today < 4; today++) {
            y.cross(0, 1, 1, 5);
            y.pass(1);
            y.frame();
        }
        Check.due("like ones by pair, the sum is less for 1 day", 0, () -> y.measured(0, 0, 1));
    }

    /** "of several the lowest number of days" */
    private static void theLowestOfSeveral() {
        Delaylens even = Sky.pair(1);
        Sky.frames(even, 20);
        Check.due("all alike", 0, () -> even.measured(0, 0, 1));
        Check.due("all alike, the other way", 0, () -> even.measured(0, 1, 0));
        // Stars on the first image on days 1, 5 and 9, on the second one on days 4, 8 and 12.
        Delaylens x = Sky.pair(1);
        for (int today = 0; today <= 13; today++) {
            if (today % 4 == 0 && today < 12) {
                x.cross(0, 0, 1, 24);
            }
            if (today % 4 == 3) {
                x.cross(0, 1, 1, 24);
            }
            x.frame();
            x.pass(1);
        }
        Check.due("3, 7 or 11", 3, () -> x.measured(0, 0, 1));
        // A star on the first image, on the last day alone, makes like days unlike, and no others.
        Delaylens y = Sky.pair(1);
        for (int today = 0; today <= 11; today++) {
            if (today == 10) {
                y.cross(0, 0, 1, 24);
            }
            if (today % 2 == 0 || today >= 8) {
                y.frame();
            }
            y.pass(1);
        }
        Check.due("three pairs a day apart, six pairs two days apart", 1, () -> y.measured(0, 0, 1));
    }

    /** A frame that was taken ahead of a source makes no pair. */
    private static void framesWithoutTheImage() {
        Delaylens x = new Delaylens();
        x.mass(Delaylens.HALO, 0, 0, 3);
        Sky.frames(x, 40);
        x.source(2, 0, 10);
        Sky.frames(x, 2);
        Check.due("two of 42 frames", Delaylens.NONE, () -> x.measured(0, 0, 1));
        Check.due("no such image in it", Delaylens.NONE, () -> x.seen(39, 0, 0));
        Check.due("in this one", 240, () -> x.seen(40, 0, 0));
        x.frame();
        Check.due("three of 43", 0, () -> x.measured(0, 0, 1));
    }

    /** "it books NONE if that is none (so it is for a rank above 5) or 0, or the way of the other image is not longer" */
    private static void booksNone() {
        bookedIs("no delay is measured", Delaylens.NONE, Sky.pair(1), 0, 1);
        Delaylens even = Sky.pair(1);
        Sky.frames(even, 3);
        bookedIs("the delay is 0", Delaylens.NONE, even, 0, 1);
        bookedIs("the way is longer", 24 * 20 / 6, bumped(6), 0, 1);
        for (int growth : new int[] {40, 100}) {
            bookedIs("whatever growth was told", 24 * 20 / 6, bumped(6, growth), 0, 1);
        }
        Delaylens turned = Sky.pair(1);
        Sky.bump(turned, 0, 1, 24);
        turned.pass(4);
        Sky.bump(turned, 0, 0, 24);
        Check.due("6 days", 6, () -> turned.measured(0, 1, 0));
        bookedIs("the way is shorter", Delaylens.NONE, turned, 1, 0);
        Delaylens alike = Sky.near();
        Sky.bump(alike, 0, 0, 24);
        alike.pass(4);
        Sky.bump(alike, 0, 1, 24);
        Check.due("6 days", 6, () -> alike.measured(0, 0, 1));
        bookedIs("the way is as long", Delaylens.NONE, alike, 0, 1);
        for (int other : new int[] {5, 6, 20}) {
            Delaylens flat = Sky.flat(1);
            Sky.bump(flat, 0, 0, 24);
            flat.pass(4);
            Sky.bump(flat, 0, other, 24);
            bookedIs("rank " + other, other == 5 ? 45 * 20 / 6 : Delaylens.NONE, flat, 0, other);
        }
        Delaylens far = Sky.flat(1);
        Sky.bump(far, 0, 6, 24);
        far.pass(4);
        Sky.bump(far, 0, 8, 24);
        bookedIs("both ranks above 5", Delaylens.NONE, far, 6, 8);
        Delaylens above = Sky.flat(1);
        Sky.frames(above, 5);
        bookedIs("the one rank above 5", Delaylens.NONE, above, 6, 1);
    }

    private static void booksTheLeast() {
        for (int[] b : new int[][] {{3, 6}, {19, 1}, {20, 1}, {21, 0}, {150, 0}}) {
            Delaylens x = Sky.near();
            Sky.bump(x, 0, 1, 24);
            Sky.pass(x, b[0] - 2);
            Sky.bump(x, 0, 2, 24);
            Check.due("measured", b[0], () -> x.measured(0, 1, 2));
            bookedIs("1 times 20 by " + b[0], b[1], x, 1, 2);
        }
        Delaylens most = Sky.flat(1);
        for (int today = 0; today < 10; today++) {
            if (today == 3 || today == 7) {
                most.cross(0, 0, 1, 24);
            }
            if (today == 4 || today == 8) {
                most.cross(0, 5, 1, 24);
            }
            most.frame();
            most.pass(1);
        }
        Check.due("a day", 1, () -> most.measured(0, 0, 5));
        bookedIs("45 times 20 by 1", 900, most, 0, 5);
    }

    private static void bookedIs(String what, int want, Delaylens x, int rank, int other) {
        Check.due("bookings, " + what, 1, () -> x.book(0, 0, rank, other));
        Check.due("bookings of both, " + what, 2, () -> x.book(1, 0, rank, other));
        Sky.open(x);
        Check.due("booked, " + what, want, () -> x.booked(0));
        Check.due("booked by the other one, " + what, want, () -> x.booked(1));
        Check.due("dispute, " + what, want == Delaylens.NONE ? want : 0, () -> x.dispute());
    }

    /** "The books are blind until 3 of the minds 0 to 4 are for opening them; that stays." */
    private static void blindUntil3Minds() {
        for (int minds = 0; minds < 32; minds++) {
            Delaylens x = new Delaylens();
            int count = 0;
            for (int i = 0; i < 5; i++) {
                boolean isFor = (minds >> i & 1) == 1;
                int mind = i;
                count += isFor ? 1 : 0;
                Check.due("open by " + count, count >= 3 ? 1 : 0, () -> x.vote(mind, isFor) ? 1 : 0);
            }
            if (count < 3) {
                Check.thrown("blind by " + count, Check.STATE, () -> x.booked(0));
                Check.thrown("blind by " + count, Check.STATE, () -> x.booked(1));
                Check.thrown("blind by " + count, Check.STATE, () -> x.dispute());
            } else {
                for (int i = 0; i < 5; i++) {
                    int mind = i;
                    Check.due("that stays", 1, () -> x.vote(mind, false) ? 1 : 0);
                }
                Check.due("open by " + count, Delaylens.NONE, () -> x.booked(0));
                Check.due("open by " + count, Delaylens.NONE, () -> x.booked(1));
                Check.due("open by " + count, Delaylens.NONE, () -> x.dispute());
            }
        }
        Delaylens again = new Delaylens();
        for (int i = 0; i < 5; i++) {
            again.vote(0, true);
            again.vote(1, true);
            Check.due("minds that are for it twice", 0, () -> again.vote(0, true) ? 1 : 0);
            Check.due("a mind that was for it", 0, () -> again.vote(1, false) ? 1 : 0);
        }
        Check.due("two", 0, () -> again.vote(4, true) ? 1 : 0);
        Check.due("three", 1, () -> again.vote(3, true) ? 1 : 0);
    }

    /** "The dispute is how far both numbers are apart." */
    private static void howFarApart() {
        for (int house = 0; house < 2; house++) {
            int one = house;
            // Stars on three images on days 1, 6 and 11: the second is 5 days behind, the fourth one 10.
            Delaylens x = Sky.open(Sky.flat(1));
            for (int today = 0; today <= 14; today++) {
                if (today % 5 == 0) {
                    x.cross(0, new int[] {0, 1, 3}[today / 5], 1, 24);
                }
                x.frame();
                x.pass(1);
            }
            Check.due("neither booked", Delaylens.NONE, () -> x.dispute());
            x.book(one, 0, 0, 1);
            Check.due("5 times 20 by 5", 20, () -> x.booked(one));
            Check.due("the other one booked nothing", Delaylens.NONE, () -> x.dispute());
            x.book(1 - one, 0, 0, 3);
            Check.due("20 times 20 by 10", 40, () -> x.booked(1 - one));
            Check.due("apart, whichever is more", 20, () -> x.dispute());
            x.book(1 - one, 0, 3, 0);
            Check.due("one booked NONE", Delaylens.NONE, () -> x.dispute());
            x.book(1 - one, 0, 0, 1);
            Check.due("both alike", 0, () -> x.dispute());
        }
    }
}

/**
 * What the document says ahead of the promises of rays and images, sentence by sentence, at the ends of
 * each. Every answer that is due was worked out by hand.
 */
public final class TermsEdgesTest {
    private static final int[][] CORNERS = {{-10, -10}, {10, -10}, {-10, 10}, {10, 10}};

    public static void main(String[] args) {
        divisionsOfRaysAreRoundedTowardZero();
        aRayComesThroughEachCellOfTheField();
        notBentInItsOwnCell();
        rightBesideAMass();
        asFarAsCanBe();
        shearBendsRowsByLessThanNothing();
        allMassesTogether();
        thatMayBeBeyondTheField();
        cellsRightBeyondTheField();
        imagesAreCellsOfTheField();
        noImages();
        asManyImagesAsWereFound();
        asManyTimesAs24DividedByTheNumber();
        theNumberTakesOneProductFromTheOther();
        ways();
        rankedByWays();
        likeOnesByRowsThenByColumns();
        late();
        growthIs70AtFirst();
        Check.end();
    }

    /** "All divisions are rounded toward 0." */
    private static void divisionsOfRaysAreRoundedTowardZero() {
        Delaylens halo = bent(Delaylens.HALO, 0, 0, 3);
        from("halo 3/2, 3/2", halo, 1, 1, 0, 0);
        from("halo -3/2, -3/2", halo, -1, -1, 0, 0);
        from("halo 6/5, -9/5", halo, 2, -3, 1, -2);
        from("halo -6/5, 9/5", halo, -2, 3, -1, 2);
        Delaylens star = bent(Delaylens.STAR, 0, 0, 5);
        from("star 60/25, -40/25", star, 3, -2, 1, -1);
        from("star -60/25, 40/25", star, -3, 2, -1, 1);
        Delaylens faint = bent(Delaylens.STAR, 0, 0, 1);
        from("star 8/9, 4/9", faint, 2, 1, 2, 1);
        from("star -8/9, -4/9", faint, -2, -1, -2, -1);
        from("star 8/4", faint, 2, 0, 0, 0);
        Delaylens shear = bent(Delaylens.SHEAR, 0, 0, 3);
        from("shear 15/8, -15/8", shear, 5, 5, 4, 6);
        from("shear -15/8, 15/8", shear, -5, -5, -4, -6);
        from("shear 6/8, -6/8", shear, 2, 2, 2, 2);
        from("shear -6/8, 6/8", shear, -2, -2, -2, -2);
        from("shear 24/8, 24/8", shear, 8, -8, 5, -11);
    }

    /** "The field has the columns and rows -10 to 10; through each of its cells a ray comes to us." */
    private static void aRayComesThroughEachCellOfTheField() {
        Delaylens x = new Delaylens();
        for (int i = 0; i < 441; i++) {
            int column = i % 21 - 10;
            int row = i / 21 - 10;
            // What calls after the 512th answer is free.
            Delaylens each = i < 200 ? x : new Delaylens();
            from("no mass", each, column, row, column, row);
            Check.due("one ray from each cell", 1, () -> new Delaylens().hits(column, row));
        }
        Check.due("none from beyond", 0, () -> x.lost());
    }

    /** "not at all in its own cell" */
    private static void notBentInItsOwnCell() {
        for (int shape = Delaylens.HALO; shape <= Delaylens.SHEAR; shape++) {
            from("own cell", bent(shape, 4, -7, 8), 4, -7, 4, -7);
            for (int[] corner : CORNERS) {
                from("own cell in a corner", bent(shape, corner[0], corner[1], 8), corner[0], corner[1], corner[0], corner[1]);
            }
        }
        Delaylens x = bent(Delaylens.STAR, 3, 3, 8);
        x.mass(Delaylens.HALO, 3, 3, 8);
        x.mass(Delaylens.HALO, 3, 5, 2);
        from("but by another mass", x, 3, 3, 3, 5);
    }

    private static void rightBesideAMass() {
        from("halo 1", bent(Delaylens.HALO, 0, 0, 1), 1, 0, 0, 0);
        from("halo 8", bent(Delaylens.HALO, 0, 0, 8), 1, 0, -7, 0);
        from("halo 8", bent(Delaylens.HALO, 0, 0, 8), 0, -1, 0, 7);
        from("star 1", bent(Delaylens.STAR, 0, 0, 1), 1, 0, -3, 0);
        from("star 8", bent(Delaylens.STAR, 0, 0, 8), 0, 1, 0, -31);
        from("star 8", bent(Delaylens.STAR, 0, 0, 8), -1, 0, 31, 0);
        from("star 8, n is 2", bent(Delaylens.STAR, 0, 0, 8), 1, 1, -7, -7);
        from("shear 7", bent(Delaylens.SHEAR, 0, 0, 7), 1, -1, 1, -1);
        from("shear 8", bent(Delaylens.SHEAR, 0, 0, 8), 1, -1, 0, -2);
    }

    private static void asFarAsCanBe() {
        from("halo 160/40", bent(Delaylens.HALO, -10, -10, 8), 10, 10, 6, 6);
        from("halo -20/40", bent(Delaylens.HALO, 10, 10, 1), -10, -10, -10, -10);
        from("halo -160/20", bent(Delaylens.HALO, 10, 10, 8), -10, 10, -2, 10);
        from("star 640/1600", bent(Delaylens.STAR, -10, -10, 8), 10, 10, 10, 10);
        from("star 640/400", bent(Delaylens.STAR, -10, -10, 8), 10, -10, 9, -10);
        from("star -640/400", bent(Delaylens.STAR, 10, 10, 8), 10, -10, 10, -9);
        from("shear -20, -20", bent(Delaylens.SHEAR, 10, -10, 8), -10, 10, 10, 30);
        from("shear -2, -2", bent(Delaylens.SHEAR, 10, -10, 1), -10, 10, -8, 12);
    }

    /** "by less than nothing: the strength times b, divided by 8, with the other sign" */
    private static void shearBendsRowsByLessThanNothing() {
        Delaylens x = bent(Delaylens.SHEAR, 0, 0, 4);
        from("column 4", x, 4, 0, 2, 0);
        from("column -4", x, -4, 0, -2, 0);
        from("row 4", x, 0, 4, 0, 6);
        from("row -4", x, 0, -4, 0, -6);
    }

    /** "A ray is bent by what all masses bend it, together" */
    private static void allMassesTogether() {
        Delaylens x = bent(Delaylens.HALO, 0, 0, 3);
        x.mass(Delaylens.HALO, 4, 0, 3);
        from("against one another", x, 2, 0, 2, 0);
        from("together", x, 7, 0, 1, 0);
        Delaylens y = bent(Delaylens.SHEAR, 0, 0, 4);
        y.mass(Delaylens.SHEAR, 0, 0, 4);
        from("12/8 and 12/8", y, 3, -3, 1, -5);
        Delaylens z = bent(Delaylens.HALO, 0, 0, 2);
        z.mass(Delaylens.STAR, 0, 1, 1);
        z.mass(Delaylens.SHEAR, -1, 0, 8);
        from("of all shapes", z, 1, 1, 1 - 1 - 4 - 2, 1 - 1 - 0 + 1);
        Delaylens six = new Delaylens();
        for (int i = 0; i < 6; i++) {
            six.mass(Delaylens.HALO, 0, 0, 1);
        }
        from("six masses", six, 0, 9, 0, 3);
    }

    /** "that may be beyond the field" */
    private static void thatMayBeBeyondTheField() {
        Delaylens x = new Delaylens();
        for (int i = 0; i < 6; i++) {
            x.mass(Delaylens.SHEAR, -10, -10, 8);
        }
        from("far beyond", x, 10, 10, 10 - 120, 10 + 120);
        from("beyond", x, -8, -8, -8 - 12, -8 + 12);
        Delaylens y = bent(Delaylens.HALO, 9, 0, 2);
        from("at the end of the field", y, 8, 0, 10, 0);
        from("to the other side", y, 10, 0, 8, 0);
        Check.due("the end is not beyond", 0, () -> y.lost());
        Delaylens z = bent(Delaylens.HALO, 10, -10, 2);
        from("one column beyond", z, 9, -10, 11, -10);
        from("one row beyond", z, 10, -9, 10, -11);
        Check.due("both are lost", 2, () -> z.lost());
        Delaylens w = bent(Delaylens.HALO, -10, 10, 2);
        from("one column beyond", w, -9, 10, -11, 10);
        from("one row beyond", w, -10, 9, -10, 11);
        Check.due("both are lost", 2, () -> w.lost());
    }

    /** "What was told of rays holds for cells right beyond the field, too." */
    private static void cellsRightBeyondTheField() {
        Delaylens none = new Delaylens();
        none.source(10, 10, 1);
        none.source(10, -10, 1);
        none.source(-10, 10, 1);
        bright("no mass", none, 0, 10, 10, 24);
        bright("no mass", none, 1, 10, -10, 24);
        bright("no mass", none, 2, -10, 10, 24);
        // Each of these rays is not bent; the next column's and the next row's are bent by 3 to the other side.
        bright("column 10", seen(bent(Delaylens.HALO, 10, 0, 3), 10, 0), 0, 10, 0, 24 / 4);
        bright("row 10", seen(bent(Delaylens.HALO, 0, 10, 3), 0, 10), 0, 0, 10, 24 / 4);
        bright("corner", seen(bent(Delaylens.HALO, 10, 10, 3), 10, 10), 0, 10, 10, 24 / 4);
        // They are bent by 4: they come from -3, seen from here.
        bright("star in the corner", seen(bent(Delaylens.STAR, 10, 10, 1), 10, 10), 0, 10, 10, 24 / 9);
        // Ray (11, 3) comes from (6, 4), ray (10, 4) from (5, 6).
        bright("shear", seen(bent(Delaylens.SHEAR, 0, 0, 4), 5, 4), 0, 10, 3, 24 / 2);
        // Ray (11, 10) comes from (-11, 10), ray (10, 11) from (-10, 13): -1 times 3.
        Delaylens two = bent(Delaylens.SHEAR, 0, 10, 8);
        two.mass(Delaylens.SHEAR, 0, 10, 8);
        bright("two shears", seen(two, -10, 10), 0, 10, 10, -24 / 3);
        // Ray (-10, 11) comes from (-10, 13).
        bright("row 10, column -10", seen(bent(Delaylens.HALO, -10, 9, 1), -10, 9), 0, -10, 10, 24);
    }

    /** "Its images are the cells of the field whose rays come from its cell." */
    private static void imagesAreCellsOfTheField() {
        for (int[] corner : CORNERS) {
            Delaylens x = new Delaylens();
            x.source(corner[0], corner[1], 1);
            Check.due("a corner", 1, () -> x.images(0));
            Check.due("a corner anew", 1, () -> x.imagesAnew(0));
            told("a corner", x, 0, corner[0], corner[1], 24, 0, 0);
        }
        // The rays in the mass's row and column come from one cell nearer, also those right beyond the field.
        Delaylens halo = bent(Delaylens.HALO, 0, 0, 1);
        int[][] ends = {{10, 0}, {0, 10}, {-10, 0}, {0, -10}, {9, 0}};
        int[] images = {0, 0, 0, 0, 1};
        for (int i = 0; i < ends.length; i++) {
            int source = i;
            halo.source(ends[i][0], ends[i][1], 1);
            Check.due("rays beyond are no images", images[i], () -> halo.images(source));
            Check.due("rays beyond are no images anew", images[i], () -> halo.imagesAnew(source));
            Check.due("nor hits", images[i], () -> halo.hits(ends[source][0], ends[source][1]));
        }
        Check.due("a row of images", 21, () -> Sky.flat(1).images(0));
    }

    /** A source without images: there is no image 0, whatever asks for it. */
    private static void noImages() {
        Delaylens x = bent(Delaylens.HALO, 0, 0, 1);
        x.source(10, 0, 100);
        x.frame();
        Check.due("images", 0, () -> x.images(0));
        Check.due("imagesAnew", 0, () -> x.imagesAnew(0));
        Check.thrown("imageOf", Check.INDEX, () -> x.imageOf(0, 0, 0));
        Check.thrown("light", Check.INDEX, () -> x.light(0, 0));
        Check.thrown("delay", Check.INDEX, () -> x.delay(0, 0, 0));
        Check.thrown("cross", Check.INDEX, () -> Check.done(() -> x.cross(0, 0, 1, 1)));
        Check.thrown("measured", Check.INDEX, () -> x.measured(0, 0, 1));
        Check.thrown("book", Check.INDEX, () -> x.book(0, 0, 0, 1));
        Check.due("seen", Delaylens.NONE, () -> x.seen(0, 0, 0));
        Check.due("flare", 99, () -> x.flare(0, -1));
    }

    /** Six masses that bring 87 rays to one cell, the most that a search came to; told by the plain model. */
    private static void asManyImagesAsWereFound() {
        int[][] masses = {{0, -4, -3, 5}, {0, 6, 9, 6}, {0, 6, -2, 2}, {0, 9, -3, 4}, {0, 7, -9, 2}, {0, -4, 8, 3}};
        Delaylens x = new Delaylens();
        PlainModel model = new PlainModel();
        for (int[] m : masses) {
            x.mass(m[0], m[1], m[2], m[3]);
            model.call("mass", m);
        }
        x.source(3, 2, 1);
        model.call("source", 3, 2, 1);
        Check.due("images", 87, () -> x.images(0));
        Check.due("images anew", 87, () -> x.imagesAnew(0));
        Check.due("hits", 87, () -> x.hits(3, 2));
        for (int i = 0; i < 87 * 5; i++) {
            int rank = i / 5;
            int what = i % 5;
            Check.due("image " + rank + ", " + what, model.call("imageOf", 0, rank, what), () -> x.imageOf(0, rank, what));
        }
        Check.thrown("no more of them", Check.INDEX, () -> x.imageOf(0, 87, 0));
    }

    /** "The image is as many times as bright as 24 divided by that number, or 24 times, if it is 0; below 0 if ..." */
    private static void asManyTimesAs24DividedByTheNumber() {
        Delaylens none = new Delaylens();
        none.source(0, 0, 1);
        bright("1", none, 0, 0, 0, 24);
        bright("0", seen(bent(Delaylens.HALO, 0, 0, 1), -1, -1), 0, -1, -1, 24);
        bright("-1", seen(bent(Delaylens.HALO, 0, 0, 2), 0, 0), 0, -1, -1, -24);
        bright("2", seen(bent(Delaylens.STAR, 0, 0, 1), -5, 0), 0, -5, 0, 12);
        bright("5", seen(bent(Delaylens.STAR, 0, 0, 2), 2, 0), 0, -2, 0, 4);
        bright("-5", seen(bent(Delaylens.HALO, 0, 0, 6), 2, 2), 0, -1, -1, -4);
        bright("7", seen(bent(Delaylens.STAR, 0, 0, 2), 7, 0), 0, -1, 0, 3);
        bright("-7", seen(bent(Delaylens.HALO, 0, 0, 8), 3, 3), 0, -1, -1, -3);
        Delaylens halos = bent(Delaylens.HALO, 0, 0, 1);
        halos.mass(Delaylens.HALO, 0, 0, 8);
        bright("24", seen(halos, 8, 0), 0, -1, 0, 1);
        Delaylens both = bent(Delaylens.HALO, 0, 0, 1);
        both.mass(Delaylens.STAR, 0, 0, 3);
        bright("-24", seen(both, 2, -2), 0, -1, 1, -1);
        bright("25", seen(bent(Delaylens.HALO, 0, 0, 6), 0, 0), 0, 0, 0, 0);
        Delaylens aside = bent(Delaylens.HALO, 0, 0, 1);
        aside.mass(Delaylens.STAR, 1, 1, 6);
        bright("-25", seen(aside, 5, 2), 0, -1, 0, 0);
        bright("961", seen(bent(Delaylens.STAR, 0, 0, 8), 0, 0), 0, 0, 0, 0);
        bright("-527", seen(bent(Delaylens.STAR, 0, 0, 8), 7, 7), 0, -1, -1, 0);
    }

    /** "the first of the one times the second of the other, less the second of the one times the first of the other" */
    private static void theNumberTakesOneProductFromTheOther() {
        // The rows of two are (-1, 3) and (3, -1).
        bright("-1 times -1 less 3 times 3", seen(bent(Delaylens.HALO, 0, 0, 5), 1, 1), 0, -1, -1, -3);
        // (-7, 0) and (-6, -1): the first of the other one does not count where the second of the one is 0.
        bright("-7 times -1 less 0 times -6", seen(bent(Delaylens.STAR, 0, 0, 2), 7, 0), 0, -1, 0, 3);
        // (-2, -10) and (-2, 2).
        Delaylens both = bent(Delaylens.HALO, 0, 0, 1);
        both.mass(Delaylens.STAR, 0, 0, 3);
        bright("-2 times 2 less -10 times -2", seen(both, 2, -2), 0, -1, 1, -1);
    }

    /** "The way of an image is 5 times the squares ..., together, less twice the strength times n of each HALO and STAR." */
    private static void ways() {
        Delaylens none = new Delaylens();
        none.source(10, -10, 1);
        Check.due("not bent", 0, () -> none.imageOf(0, 0, 3));
        Delaylens x = bent(Delaylens.HALO, 0, 0, 3);
        x.mass(Delaylens.HALO, 4, 0, 3);
        x.source(2, 0, 1);
        x.source(1, 0, 1);
        way("bent to both sides", x, 0, 2, 0, 0 - 6 * 2 - 6 * 2);
        way("the squares of both bends together", x, 1, 7, 0, 5 * 36 - 6 * 7 - 6 * 3);
        way("of columns and rows", seen(bent(Delaylens.HALO, 0, 0, 7), 2, 1), 0, -2, -1, 5 * (4 * 4 + 2 * 2) - 14 * 3);
        way("a star", seen(bent(Delaylens.STAR, 0, 0, 1), 0, 0), 0, -2, 0, 5 * 4 - 2 * 2);
        way("a star in its own cell", seen(bent(Delaylens.STAR, 0, 0, 8), 0, 0), 0, 0, 0, 0);
        way("no shear makes it shorter", seen(bent(Delaylens.SHEAR, 0, 0, 8), 0, 0), 0, 10, 0, 500);
        Delaylens both = bent(Delaylens.SHEAR, 0, 0, 8);
        both.mass(Delaylens.HALO, -10, 10, 1);
        way("but the halo beside it", seen(both, 0, 0), 0, -1, 0, 5 - 2 * 19);
    }

    /** "Images of a source are ranked by ways, shorter ones first" */
    private static void rankedByWays() {
        Delaylens x = Sky.pair(1);
        told("shorter", x, 0, 5, 0, 24, 15, 0);
        told("longer", x, 1, -1, 0, 24, 39, 6);
        Delaylens near = Sky.near();
        told("ways alike, below 0", near, 0, 2, 1, 24, -7, 0);
        told("ways alike, below 0", near, 1, 1, 2, 24, -7, 0);
        told("longer by 1, last row and column", near, 2, 2, 2, 24, -6, 0);
    }

    /** "of like ones the lower row first, then the lower column" */
    private static void likeOnesByRowsThenByColumns() {
        Delaylens x = bent(Delaylens.HALO, 0, 0, 3);
        x.source(0, 0, 1);
        int[][] cells = {{-1, -1}, {1, -1}, {-1, 1}, {1, 1}, {0, 0}, {-1, -2}, {1, -2}, {-2, -1}, {2, -1}, {-2, 1}, {2, 1},
            {-1, 2}, {1, 2}, {0, -3}, {-3, 0}, {3, 0}, {0, 3}};
        for (int i = 0; i < cells.length; i++) {
            int rank = i;
            Check.due("column of rank " + rank, cells[rank][0], () -> x.imageOf(0, rank, 0));
            Check.due("row of rank " + rank, cells[rank][1], () -> x.imageOf(0, rank, 1));
        }
        Delaylens flat = Sky.flat(1);
        for (int i = 0; i < 21; i++) {
            int rank = i;
            int column = i % 2 == 0 ? i / 2 : -(i + 1) / 2;
            Check.due("lower column of rank " + rank, column, () -> flat.imageOf(0, rank, 0));
        }
    }

    /** "An image is as late as its way is longer than that of the first image, times 20, divided by the growth" */
    private static void late() {
        int[][] growths = {{40, 12}, {48, 10}, {49, 9}, {60, 8}, {61, 7}, {70, 6}, {80, 6}, {81, 5}, {96, 5}, {97, 4}, {100, 4}};
        for (int[] g : growths) {
            Delaylens x = Sky.pair(1);
            x.world(g[0]);
            Check.due("480 by " + g[0], g[1], () -> x.imageOf(0, 1, 4));
            Check.due("the first image", 0, () -> x.imageOf(0, 0, 4));
        }
        Check.due("ways below 0 too: 20 by 70", 0, () -> Sky.near().imageOf(0, 2, 4));
        Delaylens x = bent(Delaylens.STAR, 0, 0, 1);
        x.source(0, 0, 1);
        Check.due("6 times 20 by 70", 1, () -> x.imageOf(0, 1, 4));
        Check.due("the latest: 500 times 20 by 70", 142, () -> Sky.flat(1).imageOf(0, 20, 4));
        Delaylens slow = Sky.flat(1);
        slow.world(40);
        Check.due("later than can be measured", 250, () -> slow.imageOf(0, 20, 4));
    }

    /** "the growth is 70 at first" */
    private static void growthIs70AtFirst() {
        Check.due("480 by 70", 6, () -> Sky.pair(1).imageOf(0, 1, 4));
        Check.due("what it was", 70, () -> new Delaylens().world(40));
    }

    private static Delaylens bent(int shape, int column, int row, int strength) {
        Delaylens x = new Delaylens();
        x.mass(shape, column, row, strength);
        return x;
    }

    private static Delaylens seen(Delaylens x, int column, int row) {
        x.source(column, row, 1);
        return x;
    }

    private static void from(String what, Delaylens x, int column, int row, int fromColumn, int fromRow) {
        Check.due(what + ", column", fromColumn, () -> x.from(column, row, false));
        Check.due(what + ", row", fromRow, () -> x.from(column, row, true));
    }

    private static void bright(String what, Delaylens x, int source, int column, int row, int want) {
        int rank = Sky.rankOf(x, source, column, row);
        Check.due("how bright, " + what, want, () -> x.imageOf(source, rank, 2));
    }

    private static void way(String what, Delaylens x, int source, int column, int row, int want) {
        int rank = Sky.rankOf(x, source, column, row);
        Check.due("way, " + what, want, () -> x.imageOf(source, rank, 3));
    }

    private static void told(String what, Delaylens x, int rank, int... want) {
        for (int i = 0; i < want.length; i++) {
            int asked = i;
            Check.due(what + ", " + asked, want[asked], () -> x.imageOf(0, rank, asked));
        }
    }
}

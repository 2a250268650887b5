/** Objects that several tests begin with. */
final class Sky {
    private Sky() {
    }

    /**
     * Two images, (5, 0) and (-1, 0): 24 times as bright both, their ways 15 and 39, so that the second
     * one is 24 times 20 by 70 = 6 days late.
     */
    static Delaylens pair(int light) {
        Delaylens x = new Delaylens();
        x.mass(Delaylens.HALO, 0, 0, 3);
        x.source(2, 0, light);
        return x;
    }

    /** 21 images in row 0, all 24 times as bright; those aside by a column a have the way 5 times the square of a. */
    static Delaylens flat(int light) {
        Delaylens x = new Delaylens();
        x.mass(Delaylens.SHEAR, 0, 0, 8);
        x.source(0, 0, light);
        return x;
    }

    /** Three images, (2, 1), (1, 2) and (2, 2), with the ways -7, -7 and -6, all 24 times as bright. */
    static Delaylens near() {
        Delaylens x = new Delaylens();
        x.mass(Delaylens.HALO, 0, 0, 2);
        x.source(1, 1, 10);
        return x;
    }

    static Delaylens open(Delaylens x) {
        x.vote(0, true);
        x.vote(2, true);
        x.vote(4, true);
        return x;
    }

    /** Takes frames on so many days, one after the other, today's the first; it is the day after the last one then. */
    static void frames(Delaylens x, int days) {
        for (int i = 0; i < days; i++) {
            x.frame();
            x.pass(1);
        }
    }

    /** Lets days pass, more than 100 too. */
    static void pass(Delaylens x, int days) {
        for (int left = days; left > 0; left -= 100) {
            x.pass(Math.min(left, 100));
        }
    }

    /** Takes a frame today and on the next two days; on the middle one of them a star is on the image. */
    static void bump(Delaylens x, int source, int rank, int height) {
        x.cross(source, rank, 1, height);
        x.frame();
        x.pass(1);
        x.frame();
        x.pass(1);
        x.frame();
    }

    /** The rank of the image in a cell, or -1. */
    static int rankOf(Delaylens x, int source, int column, int row) {
        for (int i = 0; i < x.images(source); i++) {
            if (x.imageOf(source, i, 0) == column && x.imageOf(source, i, 1) == row) {
                return i;
            }
        }
        return -1;
    }
}

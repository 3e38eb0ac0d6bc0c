/** Promises 2 to 7: depth, mark, sight, bearing, sounding, lies. */
public final class ChartTest {
    public static void main(String[] args) {
        depthOfRectangle();
        bearingSides();
        bearingsAddUp();
        soundingsAddUp();
        depthBehindSounding();
        howItLies();
        extentOfPlaces();
        marksAreApart();
        Checks.finish();
    }

    private static BuoyTender withMarks(int... places) {
        BuoyTender t = new BuoyTender();
        for (int i = 0; i + 1 < places.length; i += 2) {
            t.mark(places[i], places[i + 1], 0);
        }
        return t;
    }

    private static int placesOfDepth(BuoyTender t, int from, int to) {
        t.sight(0);
        t.sounding(0, from, to);
        return t.lies(0, 1);
    }

    private static void depthOfRectangle() {
        BuoyTender t = withMarks(0, 0);
        Checks.yes("depth(3, 10, 5, 14, 60)", t.depth(3, 10, 5, 14, 60));
        Checks.due("places at 60", placesOfDepth(t, 60, 60), 15);
        Checks.due("least x", t.lies(0, 2), 3);
        Checks.due("least y", t.lies(0, 3), 10);
        Checks.due("greatest x", t.lies(0, 4), 5);
        Checks.due("greatest y", t.lies(0, 5), 14);
        Checks.yes("depth(4, 11, 4, 11, 0)", t.depth(4, 11, 4, 11, 0));
        Checks.due("places at 60, charted anew", placesOfDepth(t, 60, 60), 14);
    }

    /** From (10, 10): a (y - v) - b (x - u) not below 0, c (y - v) - d (x - u) not above 0. */
    private static void bearingSides() {
        int[][] told = {
            // a, b, c, d, places, least x, least y, greatest x, greatest y
            {1, 0, 0, 1, 900, 10, 10, 39, 39},
            {0, -1, 1, 0, 330, 10, 0, 39, 10},
            {-1, 0, 0, -1, 121, 0, 0, 10, 10},
            {0, 1, -1, 0, 330, 0, 10, 10, 39},
            {1, 1, 1, 1, 40, 0, 0, 39, 39},
            {1, 0, 1, 0, 40, 0, 10, 39, 10},
            {0, 1, 0, 1, 40, 10, 0, 10, 39},
            {2, 1, 2, 1, 20, 0, 5, 38, 24},
        };
        for (int[] b : told) {
            BuoyTender t = withMarks(20, 20, 10, 10);
            String name = "bearing " + b[0] + " " + b[1] + " " + b[2] + " " + b[3];
            Checks.yes(name, t.bearing(0, 1, b[0], b[1], b[2], b[3]));
            for (int what = 1; what <= 5; what++) {
                Checks.due(name + ": lies(0, " + what + ")", t.lies(0, what), b[3 + what]);
            }
            Checks.due(name + ": of the one it was taken from", t.lies(1, 1), 1600);
        }
    }

    private static void bearingsAddUp() {
        BuoyTender t = withMarks(20, 20, 10, 10, 30, 12);
        t.bearing(0, 1, 1, 0, 1, 0);
        Checks.due("a row", t.lies(0, 1), 40);
        t.bearing(0, 2, 0, 1, 0, 1);
        Checks.due("a row and a column", t.lies(0, 1), 1);
        Checks.due("x where they meet", t.lies(0, 2), 30);
        Checks.due("y where they meet", t.lies(0, 3), 10);
        t.bearing(0, 2, 1, 0, 1, 0);
        Checks.due("two rows", t.lies(0, 1), 0);
        Checks.due("LOST", t.lies(0, 0), 3);
        t.bearing(0, 1, 1, 0, 1, 0);
        Checks.due("LOST stays", t.lies(0, 0), 3);
        t.sight(0);
        Checks.due("anew", t.lies(0, 1), 1600);
    }

    private static void soundingsAddUp() {
        BuoyTender t = withMarks(20, 20, 0, 0);
        for (int x = 0; x < 40; x++) {
            t.depth(x, 0, x, 39, x * 5);
        }
        t.sounding(0, 25, 50);
        Checks.due("columns of 25 to 50", t.lies(0, 1), 6 * 40);
        t.sounding(0, 0, 45);
        Checks.due("columns of 25 to 45", t.lies(0, 1), 5 * 40);
        t.sounding(0, 26, 200);
        Checks.due("columns of 26 to 45", t.lies(0, 1), 4 * 40);
        Checks.due("least x", t.lies(0, 2), 6);
        Checks.due("greatest x", t.lies(0, 4), 9);
        t.sounding(0, 46, 46);
        Checks.due("none", t.lies(0, 1), 0);
        t.sounding(1, 0, 0);
        t.bearing(1, 0, 1, 0, 1, 0);
        Checks.due("a row and a column", t.lies(1, 1), 1);
        Checks.due("y", t.lies(1, 5), 20);
    }

    /** A place agrees by the DEPTH that it has when it is asked for. */
    private static void depthBehindSounding() {
        BuoyTender t = withMarks(20, 20);
        t.sounding(0, 10, 20);
        Checks.due("LOST", t.lies(0, 0), 3);
        t.depth(20, 20, 20, 20, 15);
        Checks.due("ON, charted anew", t.lies(0, 0), 1);
        t.depth(20, 20, 20, 20, 21);
        Checks.due("LOST, charted anew", t.lies(0, 0), 3);
    }

    private static void howItLies() {
        BuoyTender t = new BuoyTender();
        t.mark(20, 20, 5);
        Checks.due("nothing told", t.lies(0, 0), 0);
        t.depth(23, 24, 23, 24, 10);
        t.sounding(0, 10, 10);
        Checks.due("just within the RADIUS", t.lies(0, 0), 1);
        t.depth(24, 24, 24, 24, 10);
        Checks.due("one within, one without", t.lies(0, 0), 0);
        t.depth(23, 24, 23, 24, 0);
        Checks.due("just outside the RADIUS", t.lies(0, 0), 2);
        t.depth(24, 24, 24, 24, 0);
        Checks.due("none", t.lies(0, 0), 3);
        t.depth(15, 20, 15, 20, 10);
        Checks.due("the RADIUS to the left", t.lies(0, 0), 1);
        t.depth(15, 19, 15, 19, 10);
        Checks.due("and one beyond", t.lies(0, 0), 0);
        t.mark(0, 0, 0);
        t.sounding(1, 0, 200);
        Checks.due("all places are left", t.lies(1, 0), 0);
        t.depth(0, 0, 0, 0, 99);
        t.sounding(1, 99, 99);
        Checks.due("RADIUS 0, on the station", t.lies(1, 0), 1);
        t.depth(0, 0, 0, 0, 0);
        t.depth(1, 0, 1, 0, 99);
        Checks.due("RADIUS 0, beside the station", t.lies(1, 0), 2);
    }

    private static void extentOfPlaces() {
        BuoyTender t = withMarks(0, 0);
        int[] all = {0, 1600, 0, 0, 39, 39};
        for (int what = 0; what < all.length; what++) {
            Checks.due("at first: lies(0, " + what + ")", t.lies(0, what), all[what]);
        }
        t.depth(30, 2, 30, 2, 8);
        t.depth(4, 33, 4, 33, 8);
        t.sounding(0, 8, 8);
        int[] two = {2, 2, 4, 2, 30, 33};
        for (int what = 0; what < two.length; what++) {
            Checks.due("two places: lies(0, " + what + ")", t.lies(0, what), two[what]);
        }
        t.sounding(0, 9, 9);
        int[] lost = {3, 0, -1, -1, -1, -1};
        for (int what = 0; what < lost.length; what++) {
            Checks.due("none: lies(0, " + what + ")", t.lies(0, what), lost[what]);
        }
    }

    private static void marksAreApart() {
        BuoyTender t = withMarks(10, 10, 20, 20, 30, 30);
        t.bearing(0, 2, 1, 0, 1, 0);
        t.sounding(1, 5, 5);
        Checks.due("the row of 2's station", t.lies(0, 3), 30);
        Checks.due("1 is LOST", t.lies(1, 0), 3);
        Checks.due("2 has nothing told", t.lies(2, 0), 0);
        Checks.due("0 has one row", t.lies(0, 1), 40);
    }
}

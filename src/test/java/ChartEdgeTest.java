/** Terms I and promises 2 to 7: each sentence that names a boundary case has a test of its own. */
public final class ChartEdgeTest {
    public static void main(String[] args) {
        depthAtPlaces();
        depthOfCorners();
        depthNumbers();
        depthTurnedRound();
        depthToItsBorders();
        markAtPlaces();
        markRadius();
        tenMarks();
        refusedMarkTakesNoNumber();
        numbersOfOneMark();
        numbersOfTenMarks();
        sightBeginsAnew();
        bearingWays();
        bearingWayOfNothing();
        bearingFromItself();
        bearingNotBelow();
        bearingNotAbove();
        bearingFromCorners();
        bearingOfGreatWays();
        soundingNumbers();
        soundingFalling();
        soundingNotBelowNotAbove();
        liesOn();
        liesOff();
        liesElse();
        liesLost();
        liesWithoutWord();
        radiusAtItsLeastAndMost();
        allPlacesAtFirst();
        onePlaceLeft();
        noPlaceLeft();
        liesBounds();
        allThatWasTold();
        Checks.finish();
    }

    private static BuoyTender withMarks(int... places) {
        BuoyTender t = new BuoyTender();
        for (int i = 0; i + 1 < places.length; i += 2) {
            t.mark(places[i], places[i + 1], 0);
        }
        return t;
    }

    /** HOW it lies, how many PLACES, least x and y, greatest x and y. */
    private static void dueLies(String name, BuoyTender t, int... answers) {
        for (int what = 0; what < answers.length; what++) {
            Checks.due(name + ": lies(0, " + what + ")", t.lies(0, what), answers[what]);
        }
    }

    private static int placesOfDepth(BuoyTender t, int from, int to) {
        t.sight(0);
        t.sounding(0, from, to);
        return t.lies(0, 1);
    }

    /** "PLACES (x, y), 0 .. 39 each": of depth's. */
    private static void depthAtPlaces() {
        Checks.bounds("depth(_, 0, 39, 39, 1)", 0, 39, v -> new BuoyTender().depth(v, 0, 39, 39, 1));
        Checks.bounds("depth(0, _, 39, 39, 1)", 0, 39, v -> new BuoyTender().depth(0, v, 39, 39, 1));
        Checks.bounds("depth(0, 0, _, 39, 1)", 0, 39, v -> new BuoyTender().depth(0, 0, v, 39, 1));
        Checks.bounds("depth(0, 0, 39, _, 1)", 0, 39, v -> new BuoyTender().depth(0, 0, 39, v, 1));
        for (int v : Checks.wild(0, 39)) {
            Checks.no("all at " + v, new BuoyTender().depth(v, v, v, v, 1));
        }
    }

    private static void depthOfCorners() {
        int[][] corners = {{0, 0}, {39, 0}, {0, 39}, {39, 39}};
        for (int[] c : corners) {
            BuoyTender t = withMarks(20, 20);
            t.depth(c[0], c[1], c[0], c[1], 1);
            t.sounding(0, 1, 1);
            dueLies("corner " + c[0] + ", " + c[1], t, 2, 1, c[0], c[1], c[0], c[1]);
        }
    }

    /** "a DEPTH (0 .. 200 ..)". */
    private static void depthNumbers() {
        Checks.bounds("depth(0, 0, 0, 0, _)", 0, 200, v -> new BuoyTender().depth(0, 0, 0, 0, v));
        BuoyTender t = withMarks(0, 0);
        t.depth(0, 0, 39, 39, 200);
        Checks.due("all at 200", placesOfDepth(t, 200, 200), 1600);
        t.depth(0, 0, 39, 39, 0);
        Checks.due("all at 0", placesOfDepth(t, 0, 0), 1600);
    }

    /** "False .. if x is above p, y above q": the same is not above. */
    private static void depthTurnedRound() {
        BuoyTender t = withMarks(0, 0);
        Checks.no("x above p", t.depth(6, 5, 5, 5, 1));
        Checks.no("y above q", t.depth(5, 6, 5, 5, 1));
        Checks.no("both", t.depth(6, 6, 5, 5, 1));
        Checks.no("x above p, y far below q", t.depth(39, 0, 38, 39, 1));
        Checks.no("y above q, x far below p", t.depth(0, 39, 39, 38, 1));
        Checks.due("nothing was changed", placesOfDepth(t, 0, 0), 1600);
        Checks.yes("the same x, the same y", t.depth(5, 5, 5, 5, 1));
        Checks.yes("the same x", t.depth(5, 5, 5, 6, 1));
        Checks.yes("the same y", t.depth(5, 5, 6, 5, 1));
    }

    /** "PLACES from (x, y) to (p, q)": both are among them, and none beyond. */
    private static void depthToItsBorders() {
        BuoyTender t = withMarks(0, 0);
        t.depth(3, 10, 5, 14, 60);
        t.sounding(0, 60, 60);
        dueLies("3 by 5", t, 2, 15, 3, 10, 5, 14);
        t.sight(0);
        t.sounding(0, 0, 0);
        Checks.due("the rest", t.lies(0, 1), 1585);
        t.depth(0, 0, 39, 39, 61);
        Checks.due("from corner to corner", placesOfDepth(t, 61, 61), 1600);
    }

    /** "a station (a PLACE)". */
    private static void markAtPlaces() {
        Checks.bounds("mark(_, 0, 0)", 0, 39, v -> new BuoyTender().mark(v, 0, 0) == 0);
        Checks.bounds("mark(0, _, 0)", 0, 39, v -> new BuoyTender().mark(0, v, 0) == 0);
        for (int v : Checks.wild(0, 39)) {
            Checks.none("mark(" + v + ", 0, 0)", new BuoyTender().mark(v, 0, 0));
            Checks.none("mark(0, " + v + ", 0)", new BuoyTender().mark(0, v, 0));
        }
        BuoyTender t = withMarks(0, 39, 39, 0);
        int[][] stations = {{0, 39}, {39, 0}};
        for (int i = 0; i < 2; i++) {
            Checks.due("station x", t.lies(i, 6), stations[i][0]);
            Checks.due("station y", t.lies(i, 7), stations[i][1]);
        }
    }

    /** "a RADIUS (0 .. 20)". */
    private static void markRadius() {
        Checks.bounds("mark(0, 0, _)", 0, 20, v -> new BuoyTender().mark(0, 0, v) == 0);
        BuoyTender t = new BuoyTender();
        for (int v : Checks.wild(0, 20)) {
            Checks.none("mark(0, 0, " + v + ")", t.mark(0, 0, v));
        }
        t.mark(0, 0, 0);
        t.mark(0, 0, 20);
        Checks.due("RADIUS 0", t.lies(0, 8), 0);
        Checks.due("RADIUS 20", t.lies(1, 8), 20);
    }

    /** "MARKS 0 .. 9", "NONE .. if there are 10". */
    private static void tenMarks() {
        BuoyTender t = new BuoyTender();
        for (int i = 0; i < 10; i++) {
            Checks.due("mark " + i, t.mark(i, 2 * i, i), i);
        }
        Checks.none("an eleventh", t.mark(30, 31, 20));
        Checks.none("and again", t.mark(0, 0, 0));
        Checks.due("about(0)", t.about(0), 10);
        for (int i = 0; i < 10; i++) {
            Checks.due("x of " + i, t.lies(i, 6), i);
            Checks.due("y of " + i, t.lies(i, 7), 2 * i);
            Checks.due("RADIUS of " + i, t.lies(i, 8), i);
        }
    }

    private static void refusedMarkTakesNoNumber() {
        BuoyTender t = new BuoyTender();
        Checks.none("mark(40, 0, 0)", t.mark(40, 0, 0));
        Checks.none("mark(0, -1, 0)", t.mark(0, -1, 0));
        Checks.none("mark(0, 0, 21)", t.mark(0, 0, 21));
        Checks.due("about(0)", t.about(0), 0);
        Checks.due("the first one taken", t.mark(7, 8, 9), 0);
        Checks.none("mark(0, 40, 0)", t.mark(0, 40, 0));
        Checks.due("the second one taken", t.mark(7, 8, 9), 1);
    }

    private static void numbersOfOneMark() {
        BuoyTender t = withMarks(5, 5);
        numbersUpTo(t, 0);
    }

    private static void numbersOfTenMarks() {
        BuoyTender t = withMarks(0, 0, 1, 0, 2, 0, 3, 0, 4, 0, 5, 0, 6, 0, 7, 0, 8, 0, 9, 0);
        numbersUpTo(t, 9);
        Checks.yes("bearing(0, 9, 1, 1, 1, 1)", t.bearing(0, 9, 1, 1, 1, 1));
        Checks.yes("bearing(9, 0, 1, 1, 1, 1)", t.bearing(9, 0, 1, 1, 1, 1));
        for (int v : Checks.wild(0, 9)) {
            Checks.no("bearing(" + v + ", 0, 1, 1, 1, 1)", t.bearing(v, 0, 1, 1, 1, 1));
            Checks.no("bearing(0, " + v + ", 1, 1, 1, 1)", t.bearing(0, v, 1, 1, 1, 1));
            Checks.no("bearing(" + v + ", " + v + ", 1, 1, 1, 1)", t.bearing(v, v, 1, 1, 1, 1));
        }
    }

    /** The marks that there are, and no other, are taken by each call that takes one mark. */
    private static void numbersUpTo(BuoyTender t, int last) {
        Checks.bounds("sight(_)", 0, last, t::sight);
        Checks.bounds("sounding(_, 0, 200)", 0, last, v -> t.sounding(v, 0, 200));
        for (int i = 0; i <= 8; i++) {
            int what = i;
            Checks.bounds("lies(_, " + what + ")", 0, last, v -> t.lies(v, what) != BuoyTender.NONE);
        }
        Checks.bounds("chain(_, 10, 5, 0)", 0, last, v -> t.chain(v, 10, 5, 0));
        Checks.bounds("chainOf(_, 0)", 0, last, v -> t.chainOf(v, 0) != BuoyTender.NONE);
        Checks.bounds("chainOf(_, 2)", 0, last, v -> t.chainOf(v, 2) != BuoyTender.NONE);
        Checks.bounds("light(_, 2, 11)", 0, last, v -> t.light(v, 2, 11));
        Checks.bounds("light(_, 0, 11)", 0, last, v -> t.light(v, 0, 11));
        Checks.bounds("job(_, 1, 1, 1)", 0, last, v -> t.job(v, 1, 1, 1));
        Checks.bounds("job(_, 1, 1, 0)", 0, last, v -> t.job(v, 1, 1, 0));
        Checks.bounds("warn(_, 1)", 0, last, v -> {
            int w = t.warn(v, 1);
            return w != BuoyTender.NONE && t.cancel(w);
        });
    }

    /** "A SIGHTING of a mark begins anew", "all that was told of it since it began". */
    private static void sightBeginsAnew() {
        BuoyTender t = withMarks(20, 20, 10, 10);
        Checks.yes("where nothing was told", t.sight(0));
        dueLies("nothing told", t, 0, 1600, 0, 0, 39, 39);
        t.bearing(0, 1, 1, 0, 1, 0);
        t.sounding(0, 1, 200);
        t.sounding(1, 1, 200);
        dueLies("told", t, 3, 0, -1, -1, -1, -1);
        Checks.yes("anew", t.sight(0));
        dueLies("anew", t, 0, 1600, 0, 0, 39, 39);
        Checks.due("the other's goes on", t.lies(1, 0), 3);
        t.sounding(0, 0, 199);
        dueLies("only what was told since", t, 0, 1600, 0, 0, 39, 39);
        t.bearing(0, 1, 0, 1, 0, 1);
        dueLies("only what was told since", t, 2, 40, 10, 0, 10, 39);
    }

    /** "two ways (a, b) and (c, d) (-1000 .. 1000 each ..)". */
    private static void bearingWays() {
        BuoyTender t = withMarks(20, 20, 10, 10);
        Checks.bounds("bearing(0, 1, _, 1, 1, 1)", -1000, 1000, v -> t.bearing(0, 1, v, 1, 1, 1));
        Checks.bounds("bearing(0, 1, 1, _, 1, 1)", -1000, 1000, v -> t.bearing(0, 1, 1, v, 1, 1));
        Checks.bounds("bearing(0, 1, 1, 1, _, 1)", -1000, 1000, v -> t.bearing(0, 1, 1, 1, v, 1));
        Checks.bounds("bearing(0, 1, 1, 1, 1, _)", -1000, 1000, v -> t.bearing(0, 1, 1, 1, 1, v));
    }

    /** "neither nothing": (0, 0) is no way, but one of its numbers may be 0. */
    private static void bearingWayOfNothing() {
        BuoyTender t = withMarks(20, 20, 10, 10);
        Checks.no("the first is nothing", t.bearing(0, 1, 0, 0, 1, 0));
        Checks.no("the second is nothing", t.bearing(0, 1, 1, 0, 0, 0));
        Checks.no("both are nothing", t.bearing(0, 1, 0, 0, 0, 0));
        dueLies("nothing was told", t, 0, 1600, 0, 0, 39, 39);
        int[][] ways = {{0, 1}, {0, -1}, {1, 0}, {-1, 0}};
        for (int[] w : ways) {
            Checks.yes("the first " + w[0] + ", " + w[1], t.bearing(0, 1, w[0], w[1], 1, 1));
            Checks.yes("the second " + w[0] + ", " + w[1], t.bearing(0, 1, 1, 1, w[0], w[1]));
        }
    }

    /** "False: no such marks (or the same)". */
    private static void bearingFromItself() {
        BuoyTender t = withMarks(20, 20, 20, 20);
        Checks.no("of 0 from 0", t.bearing(0, 0, 1, 0, 1, 0));
        Checks.no("of 1 from 1", t.bearing(1, 1, 1, 0, 1, 0));
        Checks.due("nothing was told", t.lies(0, 1), 1600);
        Checks.yes("from another on the same station", t.bearing(0, 1, 1, 0, 1, 0));
        Checks.due("that was told", t.lies(0, 1), 40);
    }

    /** "a (y - v) - b (x - u) not below 0": 0 is not. The other way leaves no less. */
    private static void bearingNotBelow() {
        int[][] told = {
            {1, 0, -1, 0, 20 * 40, 0, 20, 39, 39},
            {-1, 0, 1, 0, 21 * 40, 0, 0, 39, 20},
            {0, -1, 0, 1, 20 * 40, 20, 0, 39, 39},
            {0, 1, 0, -1, 21 * 40, 0, 0, 20, 39},
        };
        for (int[] b : told) {
            BuoyTender t = withMarks(0, 0, 20, 20);
            t.bearing(0, 1, b[0], b[1], b[2], b[3]);
            for (int what = 1; what <= 5; what++) {
                Checks.due("half by " + b[0] + ", " + b[1] + ": lies(0, " + what + ")", t.lies(0, what), b[3 + what]);
            }
        }
    }

    /** "c (y - v) - d (x - u) not above 0": 0 is not. The first way leaves a half, the second what borders on it. */
    private static void bearingNotAbove() {
        int[][] told = {
            {1, 0, 1, 0, 40, 0, 20, 39, 20},
            {-1, 0, -1, 0, 40, 0, 20, 39, 20},
            {0, 1, 0, 1, 40, 20, 0, 20, 39},
            {0, -1, 0, -1, 40, 20, 0, 20, 39},
            {1, 1, 1, 1, 40, 0, 0, 39, 39},
            {1, -1, 1, -1, 39, 1, 1, 39, 39},
        };
        for (int[] b : told) {
            BuoyTender t = withMarks(0, 0, 20, 20);
            t.bearing(0, 1, b[0], b[1], b[2], b[3]);
            for (int what = 1; what <= 5; what++) {
                Checks.due("a line by " + b[0] + ", " + b[1] + ": lies(0, " + what + ")", t.lies(0, what), b[3 + what]);
            }
        }
    }

    private static void bearingFromCorners() {
        int[][] corners = {{0, 0, -1, 0, 0, -1}, {39, 39, 1, 0, 0, 1}, {39, 0, 0, -1, 1, 0}, {0, 39, 0, 1, -1, 0}};
        for (int[] c : corners) {
            BuoyTender t = withMarks(20, 20, c[0], c[1]);
            t.bearing(0, 1, c[2], c[3], c[4], c[5]);
            dueLies("the corner " + c[0] + ", " + c[1], t, 2, 1, c[0], c[1], c[0], c[1]);
        }
    }

    /** Of the greatest ways a place beside the line is beside it still. */
    private static void bearingOfGreatWays() {
        BuoyTender t = withMarks(20, 20, 0, 0);
        t.bearing(0, 1, 1000, 999, 1000, 999);
        dueLies("only the station is on this line", t, 2, 1, 0, 0, 0, 0);
        t.sight(0);
        t.bearing(0, 1, 1000, 999, 1000, 1000);
        dueLies("the diagonal only", t, 0, 40, 0, 0, 39, 39);
        t.sight(0);
        t.bearing(0, 1, 1000, -1000, -1000, 1000);
        dueLies("all", t, 0, 1600, 0, 0, 39, 39);
        t.sight(0);
        t.bearing(0, 1, -1000, 1000, 1000, -1000);
        dueLies("the station only", t, 2, 1, 0, 0, 0, 0);
    }

    /** "numbers not 0 .. 200". */
    private static void soundingNumbers() {
        BuoyTender t = withMarks(20, 20);
        Checks.bounds("sounding(0, _, 200)", 0, 200, v -> t.sounding(0, v, 200));
        Checks.bounds("sounding(0, 0, _)", 0, 200, v -> t.sounding(0, 0, v));
        for (int v : Checks.wild(0, 200)) {
            Checks.no("sounding(0, " + v + ", " + v + ")", t.sounding(0, v, v));
        }
    }

    /** "or falling": the same twice is not falling. */
    private static void soundingFalling() {
        BuoyTender t = withMarks(20, 20);
        Checks.no("sounding(0, 6, 5)", t.sounding(0, 6, 5));
        Checks.no("sounding(0, 200, 199)", t.sounding(0, 200, 199));
        Checks.no("sounding(0, 1, 0)", t.sounding(0, 1, 0));
        Checks.no("sounding(0, 200, 0)", t.sounding(0, 200, 0));
        dueLies("nothing was told", t, 0, 1600, 0, 0, 39, 39);
        Checks.yes("sounding(0, 0, 0)", t.sounding(0, 0, 0));
        Checks.yes("sounding(0, 5, 5)", t.sounding(0, 5, 5));
        Checks.yes("sounding(0, 200, 200)", t.sounding(0, 200, 200));
    }

    /** "PLACES whose DEPTH is not below the one number, not above the other": neither is the number itself. */
    private static void soundingNotBelowNotAbove() {
        BuoyTender t = withMarks(20, 20);
        t.depth(3, 4, 3, 4, 50);
        int[][] told = {{50, 50, 1}, {50, 200, 1}, {51, 200, 0}, {1, 50, 1}, {1, 49, 0}, {49, 51, 1}, {51, 51, 0},
            {49, 49, 0}, {0, 50, 1600}, {0, 49, 1599}, {0, 0, 1599}, {1, 200, 1}};
        for (int[] s : told) {
            Checks.due("PLACES of " + s[0] + " to " + s[1], placesOfDepth(t, s[0], s[1]), s[2]);
        }
    }

    /** A mark with its station at (20, 20), and the only places left those that are given. */
    private static int howOfPlaces(int radius, int... places) {
        BuoyTender t = new BuoyTender();
        t.mark(20, 20, radius);
        for (int i = 0; i + 1 < places.length; i += 2) {
            t.depth(places[i], places[i + 1], places[i], places[i + 1], 9);
        }
        t.sounding(0, 9, 9);
        return t.lies(0, 0);
    }

    /** "1 ON: .. of all that are the square of the way .. is not above the RADIUS's": it may be the same. */
    private static void liesOn() {
        Checks.due("25 of 25", howOfPlaces(5, 23, 24), 1);
        Checks.due("25 of 25, straight on", howOfPlaces(5, 25, 20), 1);
        Checks.due("25 of 25, the other way", howOfPlaces(5, 20, 15), 1);
        Checks.due("all on the border", howOfPlaces(5, 23, 24, 16, 17, 15, 20, 20, 25), 1);
        Checks.due("the station", howOfPlaces(5, 20, 20), 1);
    }

    /** "2 OFF: some is left, of none it is". */
    private static void liesOff() {
        Checks.due("26 of 25", howOfPlaces(5, 25, 21), 2);
        Checks.due("26 of 25, the other way", howOfPlaces(5, 19, 15), 2);
        Checks.due("all just outside", howOfPlaces(5, 25, 21, 15, 19, 24, 24), 2);
    }

    /** "0 else": some is in, some is out. */
    private static void liesElse() {
        Checks.due("one of each", howOfPlaces(5, 25, 20, 25, 21), 0);
        Checks.due("one of each, the other told first", howOfPlaces(5, 15, 19, 23, 24), 0);
        Checks.due("many in, one out", howOfPlaces(5, 20, 20, 21, 20, 22, 20, 23, 20, 24, 20, 26, 20), 0);
        Checks.due("many out, one in", howOfPlaces(5, 0, 0, 1, 0, 2, 0, 3, 0, 20, 20), 0);
    }

    /** "3 LOST: none is left". */
    private static void liesLost() {
        Checks.due("none", howOfPlaces(5), 3);
        Checks.due("none, with the greatest RADIUS", howOfPlaces(20), 3);
    }

    /** "0 .. without a SIGHTING that has a BEARING or SOUNDING". */
    private static void liesWithoutWord() {
        BuoyTender t = withMarks(20, 20, 10, 10);
        Checks.due("at first", t.lies(0, 0), 0);
        t.sight(0);
        Checks.due("a SIGHTING without a word", t.lies(0, 0), 0);
        t.bearing(1, 0, 1, 0, 1, 0);
        Checks.due("one told of another mark", t.lies(0, 0), 0);
        t.depth(20, 20, 20, 20, 5);
        t.sounding(0, 5, 5);
        Checks.due("a SOUNDING without a sight ahead of it", t.lies(0, 0), 1);
        BuoyTender u = withMarks(20, 20, 10, 10);
        u.bearing(0, 1, 1, 0, 1, 0);
        Checks.due("a BEARING without a sight ahead of it", u.lies(0, 0), 2);
    }

    private static void radiusAtItsLeastAndMost() {
        Checks.due("RADIUS 0 at the station", howOfPlaces(0, 20, 20), 1);
        Checks.due("RADIUS 0 beside it", howOfPlaces(0, 21, 20), 2);
        Checks.due("RADIUS 0 at it and beside it", howOfPlaces(0, 20, 20, 20, 19), 0);
        Checks.due("RADIUS 20, 400 of 400", howOfPlaces(20, 0, 20, 20, 0, 32, 36, 8, 4), 1);
        Checks.due("RADIUS 20, 401 of 400", howOfPlaces(20, 0, 19), 2);
        Checks.due("RADIUS 20, a corner", howOfPlaces(20, 0, 0), 2);
    }

    /** "how many PLACES are left (all 1600 at first)". */
    private static void allPlacesAtFirst() {
        dueLies("at first", withMarks(7, 9), 0, 1600, 0, 0, 39, 39, 7, 9, 0);
    }

    private static void onePlaceLeft() {
        BuoyTender t = withMarks(20, 20);
        t.depth(0, 39, 0, 39, 8);
        t.sounding(0, 8, 8);
        dueLies("one left", t, 2, 1, 0, 39, 0, 39);
        t.depth(39, 0, 39, 0, 8);
        dueLies("two left", t, 2, 2, 0, 0, 39, 39);
    }

    /** "(NONE without)". */
    private static void noPlaceLeft() {
        BuoyTender t = withMarks(20, 21);
        t.sounding(0, 1, 200);
        dueLies("none left", t, 3, 0, -1, -1, -1, -1, 20, 21, 0);
    }

    /** "NONE for others." */
    private static void liesBounds() {
        BuoyTender t = withMarks(20, 20);
        Checks.bounds("lies(0, _)", 0, 8, v -> t.lies(0, v) != BuoyTender.NONE);
        for (int v : Checks.wild(0, 8)) {
            Checks.none("lies(0, " + v + ")", t.lies(0, v));
        }
    }

    /** As many words as an object has calls for: the first counts still, and so does the last. */
    private static void allThatWasTold() {
        BuoyTender t = withMarks(20, 20, 10, 10);
        t.bearing(0, 1, 0, 1, 0, 1);
        for (int i = 0; i < 245; i++) {
            t.bearing(0, 1, 1, 0, -1, 0);
            t.sounding(0, 0, 200);
        }
        dueLies("half a column", t, 2, 30, 10, 10, 10, 39);
        t.bearing(0, 1, -1, 0, 1, 0);
        dueLies("its first place", t, 2, 1, 10);
    }
}

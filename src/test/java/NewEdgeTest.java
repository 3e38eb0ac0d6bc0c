/** Promises 1 and 25, and what the terms say of the first: each such sentence has a test of its own. */
public final class NewEdgeTest {
    public static void main(String[] args) {
        noMarks();
        dayZero();
        noWarnings();
        noJobs();
        shipAtZeroZero();
        shipAtMinuteZero();
        endAt1440();
        firstDepth();
        firstWear();
        firstNearness();
        firstPace();
        firstDraught();
        firstMostWind();
        firstCarries();
        firstTides();
        firstWinds();
        newMarkHasNothing();
        aboutBounds();
        aboutAtItsMost();
        lastOf512Calls();
        Checks.finish();
    }

    private static BuoyTender withMark(int x, int y) {
        BuoyTender t = new BuoyTender();
        t.mark(x, y, 0);
        return t;
    }

    /** "No marks": a new object refuses mark 0 wherever a mark is asked for. */
    private static void noMarks() {
        BuoyTender t = new BuoyTender();
        Checks.due("about(0)", t.about(0), 0);
        Checks.no("sight(0)", t.sight(0));
        Checks.no("bearing(0, 1, 1, 1, 1, 1)", t.bearing(0, 1, 1, 1, 1, 1));
        Checks.no("sounding(0, 0, 200)", t.sounding(0, 0, 200));
        Checks.no("chain(0, 10, 5, 0)", t.chain(0, 10, 5, 0));
        Checks.no("light(0, 2, 11)", t.light(0, 2, 11));
        Checks.no("light(0, 0, 0)", t.light(0, 0, 0));
        Checks.none("alike(0, 1)", t.alike(0, 1));
        Checks.none("warn(0, 1)", t.warn(0, 1));
        Checks.no("job(0, 1, 1, 1)", t.job(0, 1, 1, 1));
        for (int what = 0; what <= 8; what++) {
            Checks.none("lies(0, " + what + ")", t.lies(0, what));
        }
        for (int what = 0; what <= 2; what++) {
            Checks.none("chainOf(0, " + what + ")", t.chainOf(0, what));
        }
        Checks.due("the first mark is 0", t.mark(5, 5, 5), 0);
        Checks.yes("and then it is known", t.sight(0));
    }

    /** "DAY 0". */
    private static void dayZero() {
        BuoyTender t = withMark(0, 0);
        Checks.due("about(1)", t.about(1), 0);
        Checks.due("list(0)", t.list(0), 0);
        Checks.none("list(1)", t.list(1));
        t.chain(0, 10, 5, 0);
        Checks.due("set in month 0", t.chainOf(0, 2), 0);
        t.warn(0, 1);
        Checks.due("told on DAY 0", t.warning(0, 2), 0);
    }

    private static void noWarnings() {
        BuoyTender t = new BuoyTender();
        Checks.due("about(2)", t.about(2), 0);
        Checks.no("cancel(0)", t.cancel(0));
        Checks.none("listed(0, 0)", t.listed(0, 0));
        for (int what = 0; what <= 3; what++) {
            Checks.none("warning(0, " + what + ")", t.warning(0, what));
        }
    }

    private static void noJobs() {
        BuoyTender t = withMark(0, 0);
        Checks.due("about(4)", t.about(4), 0);
        for (int what = 0; what <= 3; what++) {
            Checks.due("round(" + what + ")", t.round(what), 0);
        }
        Checks.none("round(100)", t.round(100));
        Checks.none("round(200)", t.round(200));
    }

    /** "ship at 0, 0": as far from (39, 0) as from (0, 39). */
    private static void shipAtZeroZero() {
        int[][] stations = {{0, 0, 0}, {39, 0, 39}, {0, 39, 39}, {1, 0, 1}, {0, 1, 1}};
        for (int[] s : stations) {
            BuoyTender t = withMark(s[0], s[1]);
            t.job(0, 0, 0, 1);
            Checks.due("comes to " + s[0] + ", " + s[1], t.round(200), s[2]);
            Checks.due("back from " + s[0] + ", " + s[1], t.round(1), 2 * s[2]);
        }
    }

    /** "minute 0". */
    private static void shipAtMinuteZero() {
        BuoyTender t = withMark(0, 0);
        Checks.due("back at once", t.round(1), 0);
        t.job(0, 0, 0, 1);
        Checks.due("begins at once", t.round(200), 0);
    }

    /** "END 1440". */
    private static void endAt1440() {
        BuoyTender t = withMark(0, 0);
        t.mark(0, 0, 0);
        t.mark(0, 0, 0);
        Checks.due("about(5)", t.about(5), 1440);
        t.job(0, 600, 0, 1);
        t.job(1, 600, 0, 1);
        t.job(2, 240, 0, 1);
        Checks.due("1440 minutes of JOBS: WEIGHT", t.round(0), 3);
        Checks.due("1440 minutes of JOBS: back", t.round(1), 1440);
        t.job(2, 241, 0, 1);
        Checks.due("1441 minutes of JOBS: WEIGHT", t.round(0), 2);
    }

    /** "with a DEPTH (.. at first 0)". */
    private static void firstDepth() {
        BuoyTender t = withMark(0, 0);
        t.sounding(0, 0, 0);
        Checks.due("PLACES of DEPTH 0", t.lies(0, 1), 1600);
        t.sight(0);
        t.sounding(0, 1, 200);
        Checks.due("PLACES that are deeper", t.lies(0, 1), 0);
    }

    /** "WEAR (.. at first 0)": of each KIND, in each month. */
    private static void firstWear() {
        for (int kind = 0; kind < 4; kind++) {
            BuoyTender t = withMark(0, 0);
            t.chain(0, 7, 7, kind);
            Checks.none("LIFE of KIND " + kind, t.chainOf(0, 1));
            t.day(10000);
            Checks.due("left of KIND " + kind, t.chainOf(0, 0), 7);
        }
    }

    /** "NEARNESS (.. at first 0)": a mark on the same station is NEAR, one beside it is not. */
    private static void firstNearness() {
        BuoyTender t = withMark(5, 5);
        t.mark(5, 5, 0);
        t.mark(5, 6, 0);
        Checks.due("about(3)", t.about(3), 0);
        t.light(0, 2, 11);
        Checks.no("on the same station", t.light(1, 2, 11));
        Checks.yes("beside it", t.light(2, 2, 11));
    }

    /** "PACE (.. at first 1)". */
    private static void firstPace() {
        BuoyTender t = withMark(9, 4);
        t.job(0, 0, 0, 1);
        Checks.due("nine on", t.round(200), 9);
    }

    /** "DRAUGHT (.. at first 0)": DEPTH and TIDE together 0 are enough, -1 are not. */
    private static void firstDraught() {
        BuoyTender t = withMark(0, 0);
        t.job(0, 0, 0, 1);
        Checks.due("0 is enough", t.round(200), 0);
        t.weather(0, -1, 0);
        Checks.due("-1 is not", t.round(200), 60);
        t.depth(0, 0, 0, 0, 1);
        Checks.due("1 and -1 are", t.round(200), 0);
    }

    /** "MOST WIND (.. at first 12)". */
    private static void firstMostWind() {
        BuoyTender t = withMark(0, 0);
        t.job(0, 0, 0, 1);
        t.weather(0, 0, 12);
        Checks.due("a WIND of 12 is borne", t.round(200), 0);
    }

    /** "what it carries (.. at first 0)". */
    private static void firstCarries() {
        BuoyTender t = withMark(0, 0);
        t.job(0, 0, 0, 1);
        Checks.due("LOAD 0", t.round(0), 1);
        t.job(0, 0, 1, 1);
        Checks.due("LOAD 1", t.round(0), 0);
    }

    /** "TIDE of that hour (.. at first 0)": of each of the 24, not below 0 and not above 0. */
    private static void firstTides() {
        BuoyTender t = withMark(0, 0);
        t.job(0, 0, 0, 1);
        t.depth(0, 0, 0, 0, 5);
        for (int hour = 0; hour < 24; hour++) {
            t.at(0, 0, hour * 60, hour * 60);
            t.ship(1, 5, 12, 0);
            Checks.due("DEPTH 5, DRAUGHT 5 in hour " + hour, t.round(0), 1);
            t.ship(1, 6, 12, 0);
            Checks.due("DEPTH 5, DRAUGHT 6 in hour " + hour, t.round(0), 0);
        }
    }

    /** "the WIND of that hour (.. at first 0)": of each of the 24. */
    private static void firstWinds() {
        BuoyTender t = withMark(0, 0);
        t.job(0, 0, 0, 1);
        t.ship(1, 0, 0, 0);
        for (int hour = 0; hour < 24; hour++) {
            t.at(0, 0, hour * 60, hour * 60);
            Checks.due("MOST WIND 0 in hour " + hour, t.round(0), 1);
        }
    }

    private static void newMarkHasNothing() {
        BuoyTender t = withMark(3, 3);
        t.sounding(0, 1, 200);
        t.chain(0, 10, 5, 0);
        t.light(0, 2, 11);
        t.warn(0, 1);
        t.job(0, 0, 0, 1);
        t.mark(4, 4, 0);
        Checks.due("HOW it lies", t.lies(1, 0), 0);
        Checks.due("PLACES", t.lies(1, 1), 1600);
        Checks.none("a chain", t.chainOf(1, 0));
        Checks.none("a rhythm", t.alike(0, 1));
        Checks.due("a WARNING", t.list(0), 1);
        Checks.due("a JOB", t.about(4), 1);
    }

    /** "NONE for others." */
    private static void aboutBounds() {
        BuoyTender t = new BuoyTender();
        Checks.bounds("about(_)", 0, 5, v -> t.about(v) != BuoyTender.NONE);
    }

    /** The greatest number that each of them can come to. */
    private static void aboutAtItsMost() {
        BuoyTender t = new BuoyTender();
        for (int i = 0; i < 11; i++) {
            t.mark(i, 0, 0);
            t.job(i, 1, 1, 1);
        }
        for (int i = 0; i < 101; i++) {
            t.cancel(t.warn(i % 10, 1));
        }
        t.day(10000);
        t.near(5000);
        t.at(0, 0, 1440, 1440);
        int[] most = {10, 10000, 100, 5000, 10, 1440};
        for (int what = 0; what < most.length; what++) {
            Checks.due("about(" + what + ")", t.about(what), most[what]);
        }
        t.at(0, 0, 0, 0);
        Checks.due("END 0", t.about(5), 0);
    }

    /** "An object is used for at most 512 calls": the last of them is answered as the first. */
    private static void lastOf512Calls() {
        BuoyTender t = new BuoyTender();
        int calls = 0;
        for (int i = 0; i < 10; i++) {
            t.mark(i, 0, 0);
            t.job(i, 0, 0, 1);
            calls += 2;
        }
        while (calls < 510) {
            t.at(0, 0, calls, 1440);
            Checks.due("call " + calls + ": back", t.round(1), calls + 18);
            calls += 2;
        }
        Checks.yes("call 510", t.at(9, 0, 0, 17));
        Checks.due("call 511", t.round(2), 9);
    }
}

import java.util.List;
import java.util.function.Predicate;

/** A refused call changes nothing: each is tried on an object of its own, all of which is looked at behind it. */
public final class RefusedTest {
    private static final List<String> DUE = Looks.of(Looks.full());

    public static void main(String[] args) {
        depthRefused();
        markRefused();
        sightingsRefused();
        bearingRefused();
        monthsRefused();
        lightRefused();
        warningsRefused();
        jobRefused();
        weatherRefused();
        shipRefused();
        atRefused();
        questionsRefused();
        allWrongAtOnce();
        fullOfMarks();
        fullOfWarnings();
        Checks.finish();
    }

    private static void refused(String call, Predicate<BuoyTender> taken) {
        BuoyTender t = Looks.full();
        Checks.no(call, taken.test(t));
        List<String> seen = Looks.of(t);
        for (int i = 0; i < DUE.size(); i++) {
            if (!seen.get(i).equals(DUE.get(i))) {
                Checks.yes("behind " + call + ": " + seen.get(i) + ", where without it " + DUE.get(i), false);
                return;
            }
        }
        Checks.due("behind " + call + ": as many answers", seen.size(), DUE.size());
    }

    /** The calls of one argument, the others being right. */
    private interface Call {
        boolean taken(BuoyTender t, int v);
    }

    private static void refusedAround(String call, int least, int most, Call tried) {
        for (int v : Checks.wild(least, most)) {
            refused(call.replace("_", "" + v), t -> tried.taken(t, v));
        }
    }

    private static boolean some(int answer) {
        return answer != BuoyTender.NONE;
    }

    private static void depthRefused() {
        refusedAround("depth(_, 0, 39, 39, 77)", 0, 39, (t, v) -> t.depth(v, 0, 39, 39, 77));
        refusedAround("depth(0, _, 39, 39, 77)", 0, 39, (t, v) -> t.depth(0, v, 39, 39, 77));
        refusedAround("depth(0, 0, _, 39, 77)", 0, 39, (t, v) -> t.depth(0, 0, v, 39, 77));
        refusedAround("depth(0, 0, 39, _, 77)", 0, 39, (t, v) -> t.depth(0, 0, 39, v, 77));
        refusedAround("depth(0, 0, 39, 39, _)", 0, 200, (t, v) -> t.depth(0, 0, 39, 39, v));
        refused("depth(10, 10, 9, 39, 77)", t -> t.depth(10, 10, 9, 39, 77));
        refused("depth(10, 10, 39, 9, 77)", t -> t.depth(10, 10, 39, 9, 77));
        refused("depth(39, 39, 0, 0, 77)", t -> t.depth(39, 39, 0, 0, 77));
    }

    private static void markRefused() {
        refusedAround("mark(_, 1, 1)", 0, 39, (t, v) -> some(t.mark(v, 1, 1)));
        refusedAround("mark(1, _, 1)", 0, 39, (t, v) -> some(t.mark(1, v, 1)));
        refusedAround("mark(1, 1, _)", 0, 20, (t, v) -> some(t.mark(1, 1, v)));
    }

    private static void sightingsRefused() {
        refusedAround("sight(_)", 0, 3, BuoyTender::sight);
        refusedAround("sounding(_, 0, 1)", 0, 3, (t, v) -> t.sounding(v, 0, 1));
        refusedAround("sounding(0, _, 200)", 0, 200, (t, v) -> t.sounding(0, v, 200));
        refusedAround("sounding(0, 0, _)", 0, 200, (t, v) -> t.sounding(0, 0, v));
        refused("sounding(0, 12, 11)", t -> t.sounding(0, 12, 11));
        refused("sounding(3, 200, 0)", t -> t.sounding(3, 200, 0));
    }

    private static void bearingRefused() {
        refusedAround("bearing(_, 1, 0, 1, 0, 1)", 0, 3, (t, v) -> t.bearing(v, 1, 0, 1, 0, 1));
        refusedAround("bearing(0, _, 0, 1, 0, 1)", 0, 3, (t, v) -> t.bearing(0, v, 0, 1, 0, 1));
        for (int mark = 0; mark < 4; mark++) {
            int m = mark;
            refused("bearing of " + m + " from itself", t -> t.bearing(m, m, 0, 1, 0, 1));
            refused("bearing of " + m + ", the first way nothing", t -> t.bearing(m, (m + 1) % 4, 0, 0, 0, 1));
            refused("bearing of " + m + ", the second way nothing", t -> t.bearing(m, (m + 1) % 4, 0, 1, 0, 0));
        }
        refusedAround("bearing(0, 1, _, 1, 0, 1)", -1000, 1000, (t, v) -> t.bearing(0, 1, v, 1, 0, 1));
        refusedAround("bearing(0, 1, 0, _, 0, 1)", -1000, 1000, (t, v) -> t.bearing(0, 1, 0, v, 0, 1));
        refusedAround("bearing(0, 1, 0, 1, _, 1)", -1000, 1000, (t, v) -> t.bearing(0, 1, 0, 1, v, 1));
        refusedAround("bearing(0, 1, 0, 1, 0, _)", -1000, 1000, (t, v) -> t.bearing(0, 1, 0, 1, 0, v));
    }

    private static void monthsRefused() {
        refusedAround("day(_)", 100, 10000, BuoyTender::day);
        refused("day(0)", t -> t.day(0));
        refusedAround("chain(_, 20, 10, 3)", 0, 3, (t, v) -> t.chain(v, 20, 10, 3));
        refusedAround("chain(0, _, 0, 3)", 1, 1000, (t, v) -> t.chain(0, v, 0, 3));
        refusedAround("chain(0, 20, _, 3)", 0, 20, (t, v) -> t.chain(0, 20, v, 3));
        refusedAround("chain(0, 20, 10, _)", 0, 3, (t, v) -> t.chain(0, 20, 10, v));
        for (int kind = 0; kind < 4; kind++) {
            int k = kind;
            refusedAround("wear(" + k + ", _, 9)", 0, 11, (t, v) -> t.wear(k, v, 9));
        }
        for (int month = 0; month < 12; month++) {
            int m = month;
            refusedAround("wear(_, " + m + ", 9)", 0, 3, (t, v) -> t.wear(v, m, 9));
            refusedAround("wear(0, " + m + ", _)", 0, 100, (t, v) -> t.wear(0, m, v));
        }
    }

    private static void lightRefused() {
        refusedAround("light(_, 2, 55)", 0, 3, (t, v) -> t.light(v, 2, 55));
        refusedAround("light(_, 0, 55)", 0, 3, (t, v) -> t.light(v, 0, 55));
        int[][] wrong = {{-1, 5}, {-2, 55}, {1, 5}, {3, 555}, {5, 55555}, {7, 5555555}, {9, 555555555}, {10, 1555555555},
            {2, 5}, {2, 50}, {2, 555}, {2, -55}, {4, 5055}, {8, 5555555}, {8, 555555555}, {8, 5}, {6, Integer.MAX_VALUE},
            {6, Integer.MIN_VALUE}};
        for (int mark = 0; mark < 4; mark++) {
            int m = mark;
            for (int[] w : wrong) {
                refused("light(" + m + ", " + w[0] + ", " + w[1] + ")", t -> t.light(m, w[0], w[1]));
            }
        }
        refused("ALIKE the one on its station", t -> t.light(3, 4, 2143));
        refused("ALIKE the one 25 away", t -> t.light(0, 2, 21));
        refused("ALIKE the other 25 away", t -> t.light(1, 4, 2143));
        refusedAround("near(_)", 0, 5000, BuoyTender::near);
        refused("near(800), the way from 0 to 2", t -> t.near(800));
        refused("near(5000)", t -> t.near(5000));
    }

    private static void warningsRefused() {
        refusedAround("warn(_, 1)", 0, 3, (t, v) -> some(t.warn(v, 1)));
        refusedAround("warn(0, _)", 1, 9, (t, v) -> some(t.warn(0, v)));
        refused("warn(0, 3), which isn't cancelled", t -> some(t.warn(0, 3)));
        refused("warn(1, 4), which isn't cancelled", t -> some(t.warn(1, 4)));
        refusedAround("cancel(_)", 0, 2, BuoyTender::cancel);
        refused("cancel(0), which is", t -> t.cancel(0));
    }

    private static void jobRefused() {
        refusedAround("job(_, 1, 1, 99)", 0, 3, (t, v) -> t.job(v, 1, 1, 99));
        refusedAround("job(_, 1, 1, 0)", 0, 3, (t, v) -> t.job(v, 1, 1, 0));
        for (int mark = 0; mark < 4; mark++) {
            int m = mark;
            refusedAround("job(" + m + ", _, 1, 99)", 0, 600, (t, v) -> t.job(m, v, 1, 99));
            refusedAround("job(" + m + ", 1, _, 99)", 0, 1000, (t, v) -> t.job(m, 1, v, 99));
            refusedAround("job(" + m + ", 1, 1, _)", 0, 1000, (t, v) -> t.job(m, 1, 1, v));
            refusedAround("job(" + m + ", _, 1, 0)", 0, 600, (t, v) -> t.job(m, v, 1, 0));
            refusedAround("job(" + m + ", 1, _, 0)", 0, 1000, (t, v) -> t.job(m, 1, v, 0));
        }
    }

    private static void weatherRefused() {
        refusedAround("weather(_, -50, 12)", 0, 23, (t, v) -> t.weather(v, -50, 12));
        for (int hour = 0; hour < 24; hour++) {
            int h = hour;
            refusedAround("weather(" + h + ", _, 12)", -50, 50, (t, v) -> t.weather(h, v, 12));
            refusedAround("weather(" + h + ", -50, _)", 0, 12, (t, v) -> t.weather(h, -50, v));
        }
    }

    private static void shipRefused() {
        refusedAround("ship(_, 9, 1, 1)", 0, 60, (t, v) -> t.ship(v, 9, 1, 1));
        refusedAround("ship(9, _, 1, 1)", 0, 100, (t, v) -> t.ship(9, v, 1, 1));
        refusedAround("ship(9, 9, _, 1)", 0, 12, (t, v) -> t.ship(9, 9, v, 1));
        refusedAround("ship(9, 9, 1, _)", 0, 10000, (t, v) -> t.ship(9, 9, 1, v));
        refusedAround("ship(_, 12, 5, 12)", 0, 60, (t, v) -> t.ship(v, 12, 5, 12));
        refusedAround("ship(2, 12, 5, _), all else as it is", 0, 10000, (t, v) -> t.ship(2, 12, 5, v));
        refusedAround("ship(9, 12, 5, _), another PACE", 0, 10000, (t, v) -> t.ship(9, 12, 5, v));
        refusedAround("ship(2, 9, 5, _), another DRAUGHT", 0, 10000, (t, v) -> t.ship(2, 9, 5, v));
        refusedAround("ship(2, 12, 1, _), another MOST WIND", 0, 10000, (t, v) -> t.ship(2, 12, 1, v));
    }

    private static void atRefused() {
        refusedAround("at(_, 1, 1, 9)", 0, 39, (t, v) -> t.at(v, 1, 1, 9));
        refusedAround("at(1, _, 1, 9)", 0, 39, (t, v) -> t.at(1, v, 1, 9));
        refusedAround("at(1, 1, _, 1440)", 0, 1440, (t, v) -> t.at(1, 1, v, 1440));
        refusedAround("at(1, 1, 0, _)", 0, 1440, (t, v) -> t.at(1, 1, 0, v));
        refused("at(1, 1, 10, 9)", t -> t.at(1, 1, 10, 9));
        refused("at(1, 1, 1440, 0)", t -> t.at(1, 1, 1440, 0));
    }

    private static void questionsRefused() {
        refusedAround("lies(_, 0)", 0, 3, (t, v) -> some(t.lies(v, 0)));
        refusedAround("lies(0, _)", 0, 8, (t, v) -> some(t.lies(0, v)));
        refusedAround("chainOf(_, 0)", 0, 3, (t, v) -> some(t.chainOf(v, 0)));
        refusedAround("chainOf(0, _)", 0, 2, (t, v) -> some(t.chainOf(0, v)));
        refusedAround("alike(_, 0)", 0, 3, (t, v) -> some(t.alike(v, 0)));
        refusedAround("alike(0, _)", 0, 3, (t, v) -> some(t.alike(0, v)));
        refused("alike(0, 0)", t -> some(t.alike(0, 0)));
        refused("alike(0, 3), which has none", t -> some(t.alike(0, 3)));
        refusedAround("list(_)", 0, 100, (t, v) -> some(t.list(v)));
        refusedAround("listed(_, 0)", 0, 100, (t, v) -> some(t.listed(v, 0)));
        refusedAround("listed(100, _)", 0, 1, (t, v) -> some(t.listed(100, v)));
        refusedAround("warning(_, 0)", 0, 2, (t, v) -> some(t.warning(v, 0)));
        refusedAround("warning(0, _)", 0, 3, (t, v) -> some(t.warning(0, v)));
        refusedAround("round(_)", 0, 3, (t, v) -> some(t.round(v)));
        refusedAround("about(_)", 0, 5, (t, v) -> some(t.about(v)));
    }

    /** Every argument far out at once, on a new object and on a full one. */
    private static void allWrongAtOnce() {
        int[] far = {Integer.MIN_VALUE, -1, Integer.MAX_VALUE};
        for (int v : far) {
            for (int w : far) {
                String numbers = " of " + v + " and " + w;
                refused("all calls" + numbers, t -> anyTaken(t, v, w));
                BuoyTender t = new BuoyTender();
                Checks.no("all calls on a new object" + numbers, anyTaken(t, v, w));
                int[] first = {0, 0, 0, 0, 0, 1440};
                for (int what = 0; what < first.length; what++) {
                    Checks.due("behind all calls" + numbers + ": about(" + what + ")", t.about(what), first[what]);
                }
            }
        }
    }

    private static boolean anyTaken(BuoyTender t, int v, int w) {
        boolean chart = t.depth(v, w, v, w, v) | some(t.mark(v, w, v)) | t.sight(v) | t.bearing(v, w, v, w, v, w)
            | t.sounding(v, w, v) | some(t.lies(v, w));
        boolean months = t.day(v) | t.chain(v, w, v, w) | t.wear(v, w, v) | some(t.chainOf(v, w)) | t.light(v, w, v)
            | t.near(v) | some(t.alike(v, w));
        boolean warnings = some(t.warn(v, w)) | t.cancel(v) | some(t.list(v)) | some(t.listed(v, w)) | some(t.warning(v, w));
        boolean round = t.job(v, w, v, w) | t.weather(v, w, v) | t.ship(v, w, v, w) | t.at(v, w, v, w) | some(t.round(v))
            | some(t.about(v));
        return chart | months | warnings | round;
    }

    /** An eleventh mark takes nothing from the ten. */
    private static void fullOfMarks() {
        BuoyTender t = Looks.full();
        BuoyTender other = Looks.full();
        for (int i = 4; i < 10; i++) {
            Checks.due("mark " + i, t.mark(i, i, i), i);
            other.mark(i, i, i);
        }
        for (int i = 0; i < 5; i++) {
            Checks.none("an eleventh mark", t.mark(20 + i, 20, 1));
        }
        List<String> seen = Looks.of(t);
        List<String> due = Looks.of(other);
        for (int i = 0; i < due.size(); i++) {
            Checks.yes("behind an eleventh mark: " + seen.get(i), seen.get(i).equals(due.get(i)));
        }
    }

    /** A hundred and first warning takes nothing from the hundred. */
    private static void fullOfWarnings() {
        BuoyTender t = new BuoyTender();
        t.mark(0, 0, 0);
        for (int i = 0; i < 100; i++) {
            Checks.due("warning " + i, t.warn(0, i % 9 + 1), i);
            if (i < 91) {
                t.cancel(i);
            }
        }
        t.day(1);
        Checks.yes("cancel(99)", t.cancel(99));
        for (int kind = 1; kind <= 9; kind++) {
            Checks.none("a hundred and first", t.warn(0, kind));
        }
        Checks.due("about(2)", t.about(2), 100);
        Checks.due("list(0)", t.list(0), 9);
        Checks.due("list(1)", t.list(1), 8);
        for (int i = 0; i < 100; i++) {
            Checks.due("what " + i + " is for", t.warning(i, 1), i % 9 + 1);
        }
    }
}

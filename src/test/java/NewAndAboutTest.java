/** Promises 1 (a new object) and 25 (about). */
public final class NewAndAboutTest {
    public static void main(String[] args) {
        newObject();
        newShipAndWeather();
        counts();
        objectsAreApart();
        Checks.finish();
    }

    private static void newObject() {
        BuoyTender t = new BuoyTender();
        Checks.due("NONE", BuoyTender.NONE, -1);
        int[] first = {0, 0, 0, 0, 0, 1440};
        for (int what = 0; what < first.length; what++) {
            Checks.due("new: about(" + what + ")", t.about(what), first[what]);
        }
        for (int what : Checks.wild(0, 5)) {
            Checks.none("about(" + what + ")", t.about(what));
        }
        Checks.none("new: lies(0, 0)", t.lies(0, 0));
        Checks.none("new: chainOf(0, 0)", t.chainOf(0, 0));
        Checks.none("new: warning(0, 0)", t.warning(0, 0));
        Checks.due("new: list(0)", t.list(0), 0);
        Checks.none("new: list(1)", t.list(1));
        Checks.due("new: round(0)", t.round(0), 0);
        Checks.due("new: round(1)", t.round(1), 0);
        Checks.due("new: round(2)", t.round(2), 0);
        Checks.due("new: round(3)", t.round(3), 0);
        Checks.none("new: round(100)", t.round(100));
        Checks.none("new: round(200)", t.round(200));
    }

    /** At first: ship at 0, 0 and minute 0, PACE 1, DRAUGHT 0, MOST WIND 12, carries 0, TIDES and WINDS 0. */
    private static void newShipAndWeather() {
        BuoyTender t = new BuoyTender();
        t.mark(7, 3, 0);
        Checks.yes("job(0, 0, 0, 5)", t.job(0, 0, 0, 5));
        Checks.due("first PACE and place: round(200)", t.round(200), 7);
        Checks.due("first PACE and place: round(1)", t.round(1), 14);
        Checks.yes("job(0, 0, 1, 5)", t.job(0, 0, 1, 5));
        Checks.due("carries 0: round(0)", t.round(0), 0);
        t.job(0, 0, 0, 5);
        t.weather(0, 0, 12);
        Checks.due("MOST WIND 12: round(200)", t.round(200), 7);
        t.weather(0, -1, 0);
        Checks.due("DRAUGHT 0: round(200)", t.round(200), 60);
    }

    private static void counts() {
        BuoyTender t = new BuoyTender();
        t.mark(1, 1, 1);
        t.mark(2, 2, 2);
        t.mark(3, 3, 3);
        t.day(17);
        t.warn(0, 1);
        t.warn(1, 1);
        t.cancel(0);
        t.near(4321);
        t.job(0, 1, 1, 1);
        t.job(2, 1, 1, 1);
        t.job(2, 1, 1, 2);
        t.at(0, 0, 5, 77);
        Checks.due("about(0)", t.about(0), 3);
        Checks.due("about(1)", t.about(1), 17);
        Checks.due("about(2), one of them cancelled", t.about(2), 2);
        Checks.due("about(3)", t.about(3), 4321);
        Checks.due("about(4), one of them told twice", t.about(4), 2);
        Checks.due("about(5)", t.about(5), 77);
        t.job(0, 1, 1, 0);
        Checks.due("about(4), one job gone", t.about(4), 1);
    }

    private static void objectsAreApart() {
        BuoyTender one = new BuoyTender();
        one.mark(1, 1, 1);
        one.day(9);
        one.warn(0, 1);
        one.wear(0, 0, 9);
        BuoyTender other = new BuoyTender();
        Checks.due("the other: about(0)", other.about(0), 0);
        Checks.due("the other: about(1)", other.about(1), 0);
        Checks.due("the other: about(2)", other.about(2), 0);
        other.mark(2, 2, 2);
        other.chain(0, 10, 0, 0);
        Checks.due("the other: chainOf(0, 0)", other.chainOf(0, 0), 10);
        Checks.due("the one: lies(0, 6)", one.lies(0, 6), 1);
    }
}

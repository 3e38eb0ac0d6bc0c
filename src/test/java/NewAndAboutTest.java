/** Promises 1 (a new object) and 25 (about). */
public final class NewAndAboutTest {
    public static void main(String[] args) {
        counts();
        objectsAreApart();
        Checks.finish();
    }

    private static void counts() {
        BuoyTender t = new BuoyTender();
        t.mark(1, 1, 1);
        t.mark(2, 2, 2);
        t.mark(3, 3, 3);
        t.day(17);
        t.warn(0, 1);
        t.warn(1, 1);
        t.cancel(0);
        t.near(4321);
        t.job(0, 1, 1, 1);
        t.job(2, 1, 1, 1);
        t.job(2, 1, 1, 2);
        t.at(0, 0, 5, 77);
        Checks.due("about(0)", t.about(0), 3);
        Checks.due("about(1)", t.about(1), 17);
        Checks.due("about(2), one of them cancelled", t.about(2), 2);
        Checks.due("about(3)", t.about(3), 4321);
        Checks.due("about(4), one of them told twice", t.about(4), 2);
        Checks.due("about(5)", t.about(5), 77);
        t.job(0, 1, 1, 0);
        Checks.due("about(4), one job gone", t.about(4), 1);
    }

    private static void objectsAreApart() {
        BuoyTender one = new BuoyTender();
        one.mark(1, 1, 1);
        one.day(9);
        one.warn(0, 1);
        one.wear(0, 0, 9);
        BuoyTender other = new BuoyTender();
        Checks.due("the other: about(0)", other.about(0), 0);
        Checks.due("the other: about(1)", other.about(1), 0);
        Checks.due("the other: about(2)", other.about(2), 0);
        other.mark(2, 2, 2);
        other.chain(0, 10, 0, 0);
        Checks.due("the other: chainOf(0, 0)", other.chainOf(0, 0), 10);
        Checks.due("the one: lies(0, 6)", one.lies(0, 6), 1);
    }
}

/** Promises 8 to 11: day, chain, wear, chainOf. */
public final class ChainTest {
    public static void main(String[] args) {
        whatIsLeft();
        kindsAreApart();
        lifeAsToldNow();
        inPlaceOfOne();
        Checks.finish();
    }

    private static BuoyTender withChain(int thickness, int least, int kind) {
        BuoyTender t = new BuoyTender();
        t.mark(1, 1, 1);
        t.chain(0, thickness, least, kind);
        return t;
    }

    private static void wearEveryMonth(BuoyTender t, int kind, int v) {
        for (int month = 0; month < 12; month++) {
            t.wear(kind, month, v);
        }
    }

    private static void whatIsLeft() {
        BuoyTender t = withChain(100, 0, 1);
        for (int month = 0; month < 12; month++) {
            t.wear(1, month, month + 1);
        }
        int[] left = {99, 97, 94, 90, 85, 79, 72, 64, 55, 45, 34, 22, 21, 19, 16, 12, 7, 1, 0, 0, 0};
        for (int month = 0; month < left.length; month++) {
            t.day(month * 30);
            Checks.due("first day of month " + month, t.chainOf(0, 0), left[month]);
            t.day(month * 30 + 29);
            Checks.due("last day of month " + month, t.chainOf(0, 0), left[month]);
        }
        Checks.due("the month it was set", t.chainOf(0, 2), 0);
    }

    private static void kindsAreApart() {
        BuoyTender t = new BuoyTender();
        for (int kind = 0; kind < 4; kind++) {
            t.mark(kind, 0, 0);
            wearEveryMonth(t, kind, kind + 1);
        }
        t.day(31);
        for (int kind = 0; kind < 4; kind++) {
            t.chain(kind, 50, 40, kind);
        }
        t.day(60);
        int[] lives = {11, 6, 4, 3};
        for (int kind = 0; kind < 4; kind++) {
            Checks.due("left of kind " + kind, t.chainOf(kind, 0), 50 - 2 * (kind + 1));
            Checks.due("LIFE of kind " + kind, t.chainOf(kind, 1), lives[kind]);
            Checks.due("set of kind " + kind, t.chainOf(kind, 2), 1);
        }
    }

    private static void lifeAsToldNow() {
        BuoyTender t = withChain(100, 50, 2);
        t.wear(2, 1, 30);
        t.wear(2, 2, 20);
        Checks.due("just LEAST is not less", t.chainOf(0, 1), 13);
        t.wear(2, 2, 21);
        Checks.due("one less", t.chainOf(0, 1), 2);
        t.day(300);
        Checks.due("behind it", t.chainOf(0, 1), 2);
        Checks.due("left", t.chainOf(0, 0), 49);
        t.wear(2, 0, 51);
        Checks.due("told anew, of months gone by", t.chainOf(0, 1), 0);
        Checks.due("left, told anew", t.chainOf(0, 0), 0);
        t.wear(2, 0, 0);
        t.wear(2, 1, 0);
        t.wear(2, 2, 0);
        Checks.none("no WEAR", t.chainOf(0, 1));
        Checks.due("left without WEAR", t.chainOf(0, 0), 100);
    }

    private static void inPlaceOfOne() {
        BuoyTender t = withChain(100, 50, 0);
        t.mark(2, 2, 2);
        wearEveryMonth(t, 0, 10);
        wearEveryMonth(t, 1, 1);
        t.day(95);
        Checks.due("the first one", t.chainOf(0, 0), 60);
        Checks.yes("chain(0, 200, 150, 1)", t.chain(0, 200, 150, 1));
        Checks.due("the second: left", t.chainOf(0, 0), 199);
        Checks.due("the second: set", t.chainOf(0, 2), 3);
        Checks.due("the second: LIFE", t.chainOf(0, 1), 53);
        Checks.none("the other mark has none", t.chainOf(1, 2));
    }
}

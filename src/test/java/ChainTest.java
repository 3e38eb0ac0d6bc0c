/** Promises 8 to 11: day, chain, wear, chainOf. */
public final class ChainTest {
    public static void main(String[] args) {
        dayBounds();
        chainBounds();
        wearBounds();
        chainOfBounds();
        monthsOfDays();
        whatIsLeft();
        kindsAreApart();
        lifeAsToldNow();
        lifeAtItsEdges();
        lifeWithin400Months();
        inPlaceOfOne();
        Checks.finish();
    }

    private static BuoyTender withChain(int thickness, int least, int kind) {
        BuoyTender t = new BuoyTender();
        t.mark(1, 1, 1);
        t.chain(0, thickness, least, kind);
        return t;
    }

    private static void wearEveryMonth(BuoyTender t, int kind, int v) {
        for (int month = 0; month < 12; month++) {
            t.wear(kind, month, v);
        }
    }

    private static void dayBounds() {
        BuoyTender t = new BuoyTender();
        for (int v : Checks.wild(0, 10000)) {
            Checks.no("day(" + v + ")", t.day(v));
        }
        Checks.due("about(1)", t.about(1), 0);
        Checks.yes("day(0)", t.day(0));
        Checks.yes("day(7)", t.day(7));
        Checks.no("day(6)", t.day(6));
        Checks.due("about(1)", t.about(1), 7);
        Checks.yes("day(7) again", t.day(7));
        Checks.yes("day(10000)", t.day(10000));
        Checks.no("day(10001)", t.day(10001));
        Checks.no("day(9999)", t.day(9999));
        Checks.due("about(1)", t.about(1), 10000);
    }

    private static void chainBounds() {
        BuoyTender t = new BuoyTender();
        t.mark(1, 1, 1);
        for (int v : Checks.wild(0, 0)) {
            Checks.no("chain(" + v + ", 10, 5, 0)", t.chain(v, 10, 5, 0));
        }
        for (int v : Checks.wild(1, 1000)) {
            Checks.no("chain(0, " + v + ", 0, 0)", t.chain(0, v, 0, 0));
        }
        for (int v : Checks.wild(0, 10)) {
            Checks.no("chain(0, 10, " + v + ", 0)", t.chain(0, 10, v, 0));
        }
        for (int v : Checks.wild(0, 3)) {
            Checks.no("chain(0, 10, 5, " + v + ")", t.chain(0, 10, 5, v));
        }
        Checks.none("no chain was set", t.chainOf(0, 0));
        Checks.yes("chain(0, 1, 0, 0)", t.chain(0, 1, 0, 0));
        Checks.yes("chain(0, 1, 1, 3)", t.chain(0, 1, 1, 3));
        Checks.yes("chain(0, 1000, 1000, 3)", t.chain(0, 1000, 1000, 3));
        Checks.due("what is left", t.chainOf(0, 0), 1000);
        Checks.no("chain(0, 1, 2, 0)", t.chain(0, 1, 2, 0));
        Checks.due("a false one changes nothing", t.chainOf(0, 0), 1000);
    }

    private static void wearBounds() {
        BuoyTender t = new BuoyTender();
        t.mark(1, 1, 1);
        for (int v : Checks.wild(0, 3)) {
            Checks.no("wear(" + v + ", 0, 9)", t.wear(v, 0, 9));
        }
        for (int v : Checks.wild(0, 11)) {
            Checks.no("wear(0, " + v + ", 9)", t.wear(0, v, 9));
        }
        for (int v : Checks.wild(0, 100)) {
            Checks.no("wear(0, 0, " + v + ")", t.wear(0, 0, v));
        }
        for (int kind = 0; kind < 4; kind++) {
            t.chain(0, 1000, 0, kind);
            Checks.none("no WEAR at first", t.chainOf(0, 1));
        }
        Checks.yes("wear(3, 11, 100)", t.wear(3, 11, 100));
        Checks.yes("wear(0, 0, 0)", t.wear(0, 0, 0));
        t.chain(0, 1000, 901, 3);
        Checks.due("WEAR 100 in the last month of a year", t.chainOf(0, 1), 11);
    }

    private static void chainOfBounds() {
        BuoyTender t = withChain(10, 5, 0);
        t.mark(2, 2, 2);
        for (int v : Checks.wild(0, 1)) {
            for (int what = 0; what <= 2; what++) {
                Checks.none("chainOf(" + v + ", " + what + ")", t.chainOf(v, what));
            }
        }
        for (int v : Checks.wild(0, 2)) {
            Checks.none("chainOf(0, " + v + ")", t.chainOf(0, v));
        }
        for (int what = 0; what <= 2; what++) {
            Checks.none("without one: chainOf(1, " + what + ")", t.chainOf(1, what));
        }
        Checks.due("chainOf(0, 0)", t.chainOf(0, 0), 10);
        Checks.none("chainOf(0, 1)", t.chainOf(0, 1));
        Checks.due("chainOf(0, 2)", t.chainOf(0, 2), 0);
    }

    private static void monthsOfDays() {
        int[][] months = {{0, 0}, {29, 0}, {30, 1}, {59, 1}, {60, 2}, {359, 11}, {360, 12}, {9989, 332}, {9990, 333},
            {10000, 333}};
        BuoyTender t = new BuoyTender();
        t.mark(1, 1, 1);
        for (int[] m : months) {
            t.day(m[0]);
            t.chain(0, 10, 5, 0);
            Checks.due("set on day " + m[0], t.chainOf(0, 2), m[1]);
        }
        t.wear(0, 333 % 12, 6);
        Checks.due("worn in the last month", t.chainOf(0, 0), 4);
        Checks.due("LIFE in the last month", t.chainOf(0, 1), 333);
        t.wear(0, 333 % 12, 5);
        Checks.due("LIFE beyond the last DAY", t.chainOf(0, 1), 345);
    }

    private static void whatIsLeft() {
        BuoyTender t = withChain(100, 0, 1);
        for (int month = 0; month < 12; month++) {
            t.wear(1, month, month + 1);
        }
        int[] left = {99, 97, 94, 90, 85, 79, 72, 64, 55, 45, 34, 22, 21, 19, 16, 12, 7, 1, 0, 0, 0};
        for (int month = 0; month < left.length; month++) {
            t.day(month * 30);
            Checks.due("first day of month " + month, t.chainOf(0, 0), left[month]);
            t.day(month * 30 + 29);
            Checks.due("last day of month " + month, t.chainOf(0, 0), left[month]);
        }
        Checks.due("the month it was set", t.chainOf(0, 2), 0);
    }

    private static void kindsAreApart() {
        BuoyTender t = new BuoyTender();
        for (int kind = 0; kind < 4; kind++) {
            t.mark(kind, 0, 0);
            wearEveryMonth(t, kind, kind + 1);
        }
        t.day(31);
        for (int kind = 0; kind < 4; kind++) {
            t.chain(kind, 50, 40, kind);
        }
        t.day(60);
        int[] lives = {11, 6, 4, 3};
        for (int kind = 0; kind < 4; kind++) {
            Checks.due("left of kind " + kind, t.chainOf(kind, 0), 50 - 2 * (kind + 1));
            Checks.due("LIFE of kind " + kind, t.chainOf(kind, 1), lives[kind]);
            Checks.due("set of kind " + kind, t.chainOf(kind, 2), 1);
        }
    }

    private static void lifeAsToldNow() {
        BuoyTender t = withChain(100, 50, 2);
        t.wear(2, 1, 30);
        t.wear(2, 2, 20);
        Checks.due("just LEAST is not less", t.chainOf(0, 1), 13);
        t.wear(2, 2, 21);
        Checks.due("one less", t.chainOf(0, 1), 2);
        t.day(300);
        Checks.due("behind it", t.chainOf(0, 1), 2);
        Checks.due("left", t.chainOf(0, 0), 49);
        t.wear(2, 0, 51);
        Checks.due("told anew, of months gone by", t.chainOf(0, 1), 0);
        Checks.due("left, told anew", t.chainOf(0, 0), 0);
        t.wear(2, 0, 0);
        t.wear(2, 1, 0);
        t.wear(2, 2, 0);
        Checks.none("no WEAR", t.chainOf(0, 1));
        Checks.due("left without WEAR", t.chainOf(0, 0), 100);
    }

    private static void lifeAtItsEdges() {
        BuoyTender t = withChain(10, 10, 0);
        Checks.none("LEAST is THICKNESS, no WEAR", t.chainOf(0, 1));
        t.wear(0, 7, 1);
        Checks.due("LEAST is THICKNESS, the first WEAR", t.chainOf(0, 1), 7);
        t.chain(0, 10, 0, 1);
        t.wear(1, 3, 10);
        Checks.due("LEAST 0: nothing left is not less", t.chainOf(0, 1), 15);
        t.wear(1, 3, 11);
        Checks.due("LEAST 0: more worn than there was", t.chainOf(0, 1), 3);
    }

    /** 400 months from when it was set: that one and 399 more. */
    private static void lifeWithin400Months() {
        BuoyTender t = withChain(399, 0, 0);
        wearEveryMonth(t, 0, 1);
        Checks.due("worn out in the 400th month", t.chainOf(0, 1), 399);
        t.chain(0, 400, 0, 0);
        Checks.none("worn out in the 401st month", t.chainOf(0, 1));
        t.chain(0, 400, 1, 0);
        Checks.due("less than 1 in the 400th month", t.chainOf(0, 1), 399);
        t.day(10000);
        t.chain(0, 399, 0, 0);
        Checks.due("from the last DAY", t.chainOf(0, 1), 333 + 399);
        t.chain(0, 400, 0, 0);
        Checks.none("from the last DAY, one more", t.chainOf(0, 1));
    }

    private static void inPlaceOfOne() {
        BuoyTender t = withChain(100, 50, 0);
        t.mark(2, 2, 2);
        wearEveryMonth(t, 0, 10);
        wearEveryMonth(t, 1, 1);
        t.day(95);
        Checks.due("the first one", t.chainOf(0, 0), 60);
        Checks.yes("chain(0, 200, 150, 1)", t.chain(0, 200, 150, 1));
        Checks.due("the second: left", t.chainOf(0, 0), 199);
        Checks.due("the second: set", t.chainOf(0, 2), 3);
        Checks.due("the second: LIFE", t.chainOf(0, 1), 53);
        Checks.none("the other mark has none", t.chainOf(1, 2));
    }
}

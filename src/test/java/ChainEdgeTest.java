/** Terms II (months and chains) and promises 8 to 11: each sentence that names a boundary case has a test of its own. */
public final class ChainEdgeTest {
    public static void main(String[] args) {
        dayNumbers();
        dayEarlier();
        dayToTheLast();
        monthsCut();
        chainThickness();
        chainLeast();
        chainKind();
        chainInPlaceOfOne();
        refusedChainLeavesTheOld();
        wearKinds();
        wearMonths();
        wearNumbers();
        wearGoesRound();
        wearOfEachKindAndMonth();
        wearsFromTheMonthItWasSet();
        leftBehindTheMonth();
        leftIsZeroAtLeast();
        lifeIsLessThanLeast();
        lifeInTheMonthItWasSet();
        lifeIsTheFirstMonth();
        lifeOfLeastZero();
        lifeOfLeastAsThick();
        lifeAsWearIsToldNow();
        lifeWithin400Months();
        lifeBehindTheLastDay();
        chainOfWithoutOne();
        chainOfBounds();
        Checks.finish();
    }

    private static BuoyTender withChain(int thickness, int least, int kind) {
        BuoyTender t = new BuoyTender();
        t.mark(1, 1, 1);
        t.chain(0, thickness, least, kind);
        return t;
    }

    private static void wearEveryMonth(BuoyTender t, int kind, int v) {
        for (int month = 0; month < 12; month++) {
            t.wear(kind, month, v);
        }
    }

    private static int leftOnDay(BuoyTender t, int day) {
        t.day(day);
        return t.chainOf(0, 0);
    }

    /** "DAY (0 .. 10000)", "False for others". */
    private static void dayNumbers() {
        Checks.bounds("day(_)", 0, 10000, v -> new BuoyTender().day(v));
        BuoyTender t = new BuoyTender();
        for (int v : Checks.wild(0, 10000)) {
            Checks.no("day(" + v + ")", t.day(v));
        }
        Checks.due("nothing was changed", t.about(1), 0);
    }

    /** "or an earlier one": the same is not earlier. */
    private static void dayEarlier() {
        BuoyTender t = new BuoyTender();
        t.day(7);
        Checks.no("day(6)", t.day(6));
        Checks.no("day(0)", t.day(0));
        Checks.due("nothing was changed", t.about(1), 7);
        Checks.yes("day(7)", t.day(7));
        Checks.due("the same", t.about(1), 7);
        Checks.yes("day(8)", t.day(8));
        Checks.due("the next", t.about(1), 8);
    }

    private static void dayToTheLast() {
        BuoyTender t = new BuoyTender();
        Checks.yes("day(10000)", t.day(10000));
        Checks.yes("day(10000) again", t.day(10000));
        Checks.no("day(9999)", t.day(9999));
        Checks.no("day(10001)", t.day(10001));
        Checks.due("about(1)", t.about(1), 10000);
    }

    /** "MONTHS: the clock's DAY by 30, cut". */
    private static void monthsCut() {
        int[][] months = {{0, 0}, {1, 0}, {29, 0}, {30, 1}, {59, 1}, {60, 2}, {359, 11}, {360, 12}, {9989, 332}, {9990, 333},
            {10000, 333}};
        BuoyTender t = withChain(10, 5, 0);
        for (int[] m : months) {
            t.day(m[0]);
            t.chain(0, 10, 5, 0);
            Checks.due("set on DAY " + m[0], t.chainOf(0, 2), m[1]);
        }
    }

    /** "a THICKNESS (1 .. 1000)". */
    private static void chainThickness() {
        Checks.bounds("chain(0, _, 0, 0)", 1, 1000, v -> withChain(10, 5, 0).chain(0, v, 0, 0));
        Checks.bounds("chain(0, _, _, 0)", 1, 1000, v -> withChain(10, 5, 0).chain(0, v, v, 0));
        Checks.due("the least", withChain(1, 0, 0).chainOf(0, 0), 1);
        Checks.due("the most", withChain(1000, 0, 0).chainOf(0, 0), 1000);
    }

    /** "LEAST (0 .. THICKNESS)". */
    private static void chainLeast() {
        Checks.bounds("chain(0, 10, _, 0)", 0, 10, v -> withChain(100, 50, 0).chain(0, 10, v, 0));
        Checks.bounds("chain(0, 1, _, 0)", 0, 1, v -> withChain(100, 50, 0).chain(0, 1, v, 0));
        Checks.bounds("chain(0, 1000, _, 0)", 0, 1000, v -> withChain(100, 50, 0).chain(0, 1000, v, 0));
    }

    /** "a KIND of ground 0 .. 3": of a chain's. */
    private static void chainKind() {
        Checks.bounds("chain(0, 10, 5, _)", 0, 3, v -> withChain(100, 50, 0).chain(0, 10, 5, v));
    }

    /** "A chain is set (in place of one) in the clock's month". */
    private static void chainInPlaceOfOne() {
        BuoyTender t = withChain(100, 50, 0);
        wearEveryMonth(t, 0, 10);
        wearEveryMonth(t, 1, 1);
        t.day(95);
        Checks.yes("chain(0, 200, 150, 1)", t.chain(0, 200, 150, 1));
        Checks.due("left", t.chainOf(0, 0), 199);
        Checks.due("LIFE", t.chainOf(0, 1), 53);
        Checks.due("set", t.chainOf(0, 2), 3);
    }

    private static void refusedChainLeavesTheOld() {
        BuoyTender t = withChain(100, 50, 0);
        wearEveryMonth(t, 0, 10);
        t.day(95);
        Checks.no("a wrong THICKNESS", t.chain(0, 1001, 1, 1));
        Checks.no("a wrong LEAST", t.chain(0, 20, 21, 1));
        Checks.no("a wrong KIND", t.chain(0, 20, 1, 4));
        Checks.due("left", t.chainOf(0, 0), 60);
        Checks.due("LIFE", t.chainOf(0, 1), 5);
        Checks.due("set", t.chainOf(0, 2), 0);
    }

    /** "a KIND of ground 0 .. 3": of WEAR's. */
    private static void wearKinds() {
        Checks.bounds("wear(_, 0, 1)", 0, 3, v -> new BuoyTender().wear(v, 0, 1));
        Checks.bounds("wear(_, 11, 1)", 0, 3, v -> new BuoyTender().wear(v, 11, 1));
    }

    /** "of the month's rest by 12": 0 .. 11, which wear takes, and no month beyond. */
    private static void wearMonths() {
        Checks.bounds("wear(0, _, 1)", 0, 11, v -> new BuoyTender().wear(0, v, 1));
        Checks.bounds("wear(3, _, 1)", 0, 11, v -> new BuoyTender().wear(3, v, 1));
    }

    /** "0 .. 100 each". */
    private static void wearNumbers() {
        Checks.bounds("wear(0, 0, _)", 0, 100, v -> new BuoyTender().wear(0, 0, v));
        BuoyTender t = withChain(1000, 0, 0);
        t.wear(0, 0, 100);
        Checks.due("the most", t.chainOf(0, 0), 900);
        t.wear(0, 0, 101);
        t.wear(0, 0, -1);
        Checks.due("refused, it changes nothing", t.chainOf(0, 0), 900);
        t.wear(0, 0, 0);
        Checks.due("the least", t.chainOf(0, 0), 1000);
    }

    /** "of the month's rest by 12": behind month 11 comes rest 0. */
    private static void wearGoesRound() {
        BuoyTender t = withChain(1000, 0, 0);
        t.wear(0, 0, 100);
        t.wear(0, 11, 1);
        Checks.due("month 0", leftOnDay(t, 29), 900);
        Checks.due("month 10", leftOnDay(t, 329), 900);
        Checks.due("month 11", leftOnDay(t, 330), 899);
        Checks.due("month 11, its last DAY", leftOnDay(t, 359), 899);
        Checks.due("month 12", leftOnDay(t, 360), 799);
        Checks.due("month 23", leftOnDay(t, 690), 798);
        Checks.due("month 24", leftOnDay(t, 720), 698);
    }

    private static void wearOfEachKindAndMonth() {
        for (int kind = 0; kind < 4; kind++) {
            for (int month = 0; month < 12; month++) {
                BuoyTender t = new BuoyTender();
                for (int m = 0; m < 4; m++) {
                    t.mark(m, m, 0);
                    t.chain(m, 9, 9, m);
                }
                t.wear(kind, month, 1);
                for (int m = 0; m < 4; m++) {
                    Checks.due("wear(" + kind + ", " + month + ", 1): LIFE of KIND " + m, t.chainOf(m, 1),
                        m == kind ? month : -1);
                }
            }
        }
    }

    /** "it wears in each month from the one in which it was set on": that one too, none ahead of it. */
    private static void wearsFromTheMonthItWasSet() {
        int[][] set = {{29, 0, 4}, {30, 1, 5}, {59, 1, 5}, {60, 2, 6}};
        for (int[] s : set) {
            BuoyTender t = withChain(1, 0, 0);
            for (int month = 0; month < 12; month++) {
                t.wear(0, month, 4 + month);
            }
            t.day(s[0]);
            t.chain(0, 100, 0, 0);
            Checks.due("set on DAY " + s[0] + ", in month", t.chainOf(0, 2), s[1]);
            Checks.due("set on DAY " + s[0] + ", left", t.chainOf(0, 0), 100 - s[2]);
            t.day(s[1] * 30 + 30);
            Checks.due("set on DAY " + s[0] + ", left in the next month", t.chainOf(0, 0), 100 - s[2] - s[2] - 1);
        }
    }

    /** "what is left behind the clock's month's end": the same from its first DAY to its last. */
    private static void leftBehindTheMonth() {
        BuoyTender t = withChain(100, 0, 2);
        wearEveryMonth(t, 2, 7);
        Checks.due("DAY 0", leftOnDay(t, 0), 93);
        Checks.due("DAY 29", leftOnDay(t, 29), 93);
        Checks.due("DAY 30", leftOnDay(t, 30), 86);
        Checks.due("DAY 59", leftOnDay(t, 59), 86);
        Checks.due("DAY 60", leftOnDay(t, 60), 79);
    }

    /** "(0 at least)". */
    private static void leftIsZeroAtLeast() {
        BuoyTender t = withChain(10, 0, 0);
        wearEveryMonth(t, 0, 3);
        Checks.due("one is left", leftOnDay(t, 60), 1);
        t.wear(0, 0, 4);
        Checks.due("just nothing is left", t.chainOf(0, 0), 0);
        t.wear(0, 0, 5);
        Checks.due("more has worn than there was", t.chainOf(0, 0), 0);
        Checks.due("and goes on wearing", leftOnDay(t, 10000), 0);
        wearEveryMonth(t, 0, 0);
        Checks.due("told anew, it has not worn", t.chainOf(0, 0), 10);
    }

    /** "the first month at whose end less than LEAST is left": just LEAST is not less. */
    private static void lifeIsLessThanLeast() {
        BuoyTender t = withChain(100, 50, 0);
        t.wear(0, 4, 50);
        Checks.due("just LEAST in month 4", t.chainOf(0, 1), 16);
        t.wear(0, 4, 51);
        Checks.due("one less in month 4", t.chainOf(0, 1), 4);
    }

    private static void lifeInTheMonthItWasSet() {
        BuoyTender t = withChain(100, 50, 0);
        t.wear(0, 0, 51);
        Checks.due("month 0", t.chainOf(0, 1), 0);
        t.day(30);
        t.chain(0, 100, 50, 0);
        t.wear(0, 1, 51);
        Checks.due("month 1", t.chainOf(0, 1), 1);
    }

    /** "the first month": later ones, at whose end less is left still, are not it. */
    private static void lifeIsTheFirstMonth() {
        BuoyTender t = withChain(100, 90, 0);
        wearEveryMonth(t, 0, 2);
        Checks.due("LIFE", t.chainOf(0, 1), 5);
        t.day(5 * 30);
        Checks.due("in that month", t.chainOf(0, 1), 5);
        t.day(6 * 30);
        Checks.due("behind it", t.chainOf(0, 1), 5);
        t.day(10000);
        Checks.due("on the last DAY", t.chainOf(0, 1), 5);
    }

    /** Less than 0 is left, where more has worn than there was. */
    private static void lifeOfLeastZero() {
        BuoyTender t = withChain(10, 0, 0);
        t.wear(0, 3, 10);
        Checks.due("just nothing left in month 3", t.chainOf(0, 1), 15);
        t.wear(0, 3, 11);
        Checks.due("less in month 3", t.chainOf(0, 1), 3);
    }

    private static void lifeOfLeastAsThick() {
        BuoyTender t = withChain(10, 10, 0);
        Checks.none("without WEAR", t.chainOf(0, 1));
        t.wear(0, 11, 1);
        Checks.due("the first WEAR", t.chainOf(0, 1), 11);
    }

    /** "as WEAR is told now": of months gone by too. */
    private static void lifeAsWearIsToldNow() {
        BuoyTender t = withChain(100, 50, 0);
        t.wear(0, 2, 60);
        t.day(300);
        Checks.due("LIFE", t.chainOf(0, 1), 2);
        t.wear(0, 2, 30);
        Checks.due("less WEAR", t.chainOf(0, 1), 14);
        t.wear(0, 1, 60);
        Checks.due("more WEAR", t.chainOf(0, 1), 1);
        t.wear(0, 1, 0);
        t.wear(0, 2, 0);
        Checks.none("no WEAR", t.chainOf(0, 1));
    }

    /** "NONE: not within 400 months from when it was set": that month and 399 more. */
    private static void lifeWithin400Months() {
        int[] days = {0, 29, 30, 95, 10000};
        for (int day : days) {
            int set = day / 30;
            BuoyTender t = withChain(1, 0, 0);
            wearEveryMonth(t, 0, 1);
            t.day(day);
            t.chain(0, 399, 0, 0);
            Checks.due("set on DAY " + day + ", the 400th month", t.chainOf(0, 1), set + 399);
            t.chain(0, 400, 0, 0);
            Checks.none("set on DAY " + day + ", the 401st month", t.chainOf(0, 1));
            t.chain(0, 400, 1, 0);
            Checks.due("set on DAY " + day + ", LEAST 1", t.chainOf(0, 1), set + 399);
            t.chain(0, 401, 1, 0);
            Checks.none("set on DAY " + day + ", LEAST 1, one thicker", t.chainOf(0, 1));
        }
    }

    private static void lifeBehindTheLastDay() {
        BuoyTender t = withChain(1, 0, 0);
        t.day(10000);
        t.chain(0, 10, 5, 0);
        t.wear(0, 333 % 12, 6);
        Checks.due("the last month", t.chainOf(0, 1), 333);
        Checks.due("the last month: left", t.chainOf(0, 0), 4);
        t.wear(0, 333 % 12, 5);
        Checks.due("a year on", t.chainOf(0, 1), 345);
    }

    /** "NONE .. without one." */
    private static void chainOfWithoutOne() {
        BuoyTender t = withChain(10, 5, 0);
        t.mark(2, 2, 2);
        for (int what = -1; what <= 3; what++) {
            Checks.none("chainOf(1, " + what + ")", t.chainOf(1, what));
        }
        Checks.no("a refused one", t.chain(1, 0, 0, 0));
        Checks.none("still without one", t.chainOf(1, 0));
    }

    /** "NONE for others". */
    private static void chainOfBounds() {
        BuoyTender t = withChain(10, 10, 0);
        t.wear(0, 0, 1);
        Checks.bounds("chainOf(0, _)", 0, 2, v -> t.chainOf(0, v) != BuoyTender.NONE);
        Checks.bounds("chainOf(_, 1)", 0, 0, v -> t.chainOf(v, 1) != BuoyTender.NONE);
    }
}

/** Promises 15 to 19: warn, cancel, list, listed, warning. */
public final class WarningTest {
    public static void main(String[] args) {
        warnBounds();
        oneOfAKind();
        hundredWarnings();
        cancelBounds();
        onAnyDay();
        cancelledAtOnce();
        listedBounds();
        warningBounds();
        Checks.finish();
    }

    private static BuoyTender withMarks(int many) {
        BuoyTender t = new BuoyTender();
        for (int i = 0; i < many; i++) {
            t.mark(i, i, 0);
        }
        return t;
    }

    private static void warnBounds() {
        BuoyTender t = withMarks(2);
        for (int v : Checks.wild(0, 1)) {
            Checks.none("warn(" + v + ", 1)", t.warn(v, 1));
        }
        for (int v : Checks.wild(1, 9)) {
            Checks.none("warn(0, " + v + ")", t.warn(0, v));
        }
        Checks.due("about(2)", t.about(2), 0);
        Checks.due("warn(0, 1)", t.warn(0, 1), 0);
        Checks.due("warn(1, 9)", t.warn(1, 9), 1);
        Checks.due("about(2)", t.about(2), 2);
    }

    private static void oneOfAKind() {
        BuoyTender t = withMarks(2);
        Checks.due("warn(0, 4)", t.warn(0, 4), 0);
        Checks.none("warn(0, 4) again", t.warn(0, 4));
        Checks.due("another kind", t.warn(0, 5), 1);
        Checks.due("another mark", t.warn(1, 4), 2);
        t.day(3);
        Checks.none("still not cancelled", t.warn(0, 4));
        Checks.yes("cancel(0)", t.cancel(0));
        Checks.due("cancelled: another of this kind", t.warn(0, 4), 3);
        Checks.none("and not a third", t.warn(0, 4));
        Checks.none("the others still stand", t.warn(0, 5));
        Checks.none("the others still stand", t.warn(1, 4));
        Checks.due("about(2)", t.about(2), 4);
    }

    private static void hundredWarnings() {
        BuoyTender t = withMarks(10);
        for (int i = 0; i < 90; i++) {
            Checks.due("warning " + i, t.warn(i / 9, i % 9 + 1), i);
        }
        for (int i = 0; i < 10; i++) {
            t.cancel(i);
            Checks.due("warning " + (90 + i), t.warn(i / 9, i % 9 + 1), 90 + i);
        }
        Checks.yes("cancel(99)", t.cancel(99));
        Checks.none("a hundred and first", t.warn(1, 1));
        Checks.due("about(2)", t.about(2), 100);
        Checks.due("warning(99, 0)", t.warning(99, 0), 1);
        Checks.none("warning(100, 0)", t.warning(100, 0));
        Checks.no("cancel(100)", t.cancel(100));
        Checks.due("list(0)", t.list(0), 89);
        Checks.due("listed(0, 88)", t.listed(0, 88), 98);
        Checks.none("listed(0, 89)", t.listed(0, 89));
    }

    private static void cancelBounds() {
        BuoyTender t = withMarks(1);
        Checks.no("cancel(0), none yet", t.cancel(0));
        t.warn(0, 1);
        for (int v : Checks.wild(0, 0)) {
            Checks.no("cancel(" + v + ")", t.cancel(v));
        }
        t.day(5);
        Checks.yes("cancel(0)", t.cancel(0));
        t.day(8);
        Checks.no("cancel(0) again", t.cancel(0));
        Checks.due("the first DAY stays", t.warning(0, 3), 5);
    }

    private static void onAnyDay() {
        BuoyTender t = withMarks(3);
        t.day(10);
        t.warn(0, 1);
        t.day(12);
        t.warn(1, 2);
        t.day(15);
        t.cancel(0);
        t.warn(2, 3);
        t.day(20);
        t.cancel(2);
        t.warn(0, 1);
        t.day(22);
        int[][] out = {{0}, {9}, {10, 0}, {11, 0}, {12, 0, 1}, {14, 0, 1}, {15, 1, 2}, {19, 1, 2}, {20, 1, 3}, {22, 1, 3}};
        for (int[] o : out) {
            Checks.due("list(" + o[0] + ")", t.list(o[0]), o.length - 1);
            for (int i = 1; i < o.length; i++) {
                Checks.due("listed(" + o[0] + ", " + (i - 1) + ")", t.listed(o[0], i - 1), o[i]);
            }
            Checks.none("listed(" + o[0] + ", " + (o.length - 1) + ")", t.listed(o[0], o.length - 1));
        }
        for (int v : Checks.wild(0, 22)) {
            Checks.none("list(" + v + ")", t.list(v));
            Checks.none("listed(" + v + ", 0)", t.listed(v, 0));
        }
        t.day(10000);
        Checks.due("list(10000)", t.list(10000), 2);
        Checks.due("list(23)", t.list(23), 2);
        Checks.none("list(10001)", t.list(10001));
    }

    private static void cancelledAtOnce() {
        BuoyTender t = withMarks(1);
        t.day(4);
        t.warn(0, 1);
        Checks.due("list(4)", t.list(4), 1);
        t.cancel(0);
        Checks.due("list(4), cancelled on its first DAY", t.list(4), 0);
        Checks.none("listed(4, 0)", t.listed(4, 0));
        Checks.due("list(3)", t.list(3), 0);
        Checks.due("warning(0, 2)", t.warning(0, 2), 4);
        Checks.due("warning(0, 3)", t.warning(0, 3), 4);
        Checks.due("the same day anew", t.warn(0, 1), 1);
        Checks.due("listed(4, 0)", t.listed(4, 0), 1);
    }

    private static void listedBounds() {
        BuoyTender t = withMarks(1);
        t.warn(0, 1);
        t.warn(0, 2);
        for (int v : Checks.wild(0, 1)) {
            Checks.none("listed(0, " + v + ")", t.listed(0, v));
        }
        Checks.due("listed(0, 0)", t.listed(0, 0), 0);
        Checks.due("listed(0, 1)", t.listed(0, 1), 1);
    }

    private static void warningBounds() {
        BuoyTender t = withMarks(4);
        t.day(6);
        t.warn(3, 8);
        t.warn(2, 7);
        int[] first = {3, 8, 6, -1};
        int[] second = {2, 7, 6, -1};
        for (int what = 0; what < 4; what++) {
            Checks.due("warning(0, " + what + ")", t.warning(0, what), first[what]);
            Checks.due("warning(1, " + what + ")", t.warning(1, what), second[what]);
            for (int v : Checks.wild(0, 1)) {
                Checks.none("warning(" + v + ", " + what + ")", t.warning(v, what));
            }
        }
        for (int v : Checks.wild(0, 3)) {
            Checks.none("warning(0, " + v + ")", t.warning(0, v));
        }
        t.cancel(1);
        Checks.due("warning(1, 3)", t.warning(1, 3), 6);
        Checks.none("warning(0, 3)", t.warning(0, 3));
    }
}

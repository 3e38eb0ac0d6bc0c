/** Promises 15 to 19: warn, cancel, list, listed, warning. */
public final class WarningTest {
    public static void main(String[] args) {
        oneOfAKind();
        onAnyDay();
        allOfAWarning();
        Checks.finish();
    }

    private static BuoyTender withMarks(int many) {
        BuoyTender t = new BuoyTender();
        for (int i = 0; i < many; i++) {
            t.mark(i, i, 0);
        }
        return t;
    }

    private static void oneOfAKind() {
        BuoyTender t = withMarks(2);
        Checks.due("warn(0, 4)", t.warn(0, 4), 0);
        Checks.none("warn(0, 4) again", t.warn(0, 4));
        Checks.due("another kind", t.warn(0, 5), 1);
        Checks.due("another mark", t.warn(1, 4), 2);
        t.day(3);
        Checks.none("still not cancelled", t.warn(0, 4));
        Checks.yes("cancel(0)", t.cancel(0));
        Checks.due("cancelled: another of this kind", t.warn(0, 4), 3);
        Checks.none("and not a third", t.warn(0, 4));
        Checks.none("the others still stand", t.warn(0, 5));
        Checks.none("the others still stand", t.warn(1, 4));
        Checks.due("about(2)", t.about(2), 4);
    }

    private static void onAnyDay() {
        BuoyTender t = withMarks(3);
        t.day(10);
        t.warn(0, 1);
        t.day(12);
        t.warn(1, 2);
        t.day(15);
        t.cancel(0);
        t.warn(2, 3);
        t.day(20);
        t.cancel(2);
        t.warn(0, 1);
        t.day(22);
        int[][] out = {{0}, {9}, {10, 0}, {11, 0}, {12, 0, 1}, {14, 0, 1}, {15, 1, 2}, {19, 1, 2}, {20, 1, 3}, {22, 1, 3}};
        for (int[] o : out) {
            Checks.due("list(" + o[0] + ")", t.list(o[0]), o.length - 1);
            for (int i = 1; i < o.length; i++) {
                Checks.due("listed(" + o[0] + ", " + (i - 1) + ")", t.listed(o[0], i - 1), o[i]);
            }
            Checks.none("listed(" + o[0] + ", " + (o.length - 1) + ")", t.listed(o[0], o.length - 1));
        }
    }

    private static void allOfAWarning() {
        BuoyTender t = withMarks(4);
        t.day(6);
        t.warn(3, 8);
        t.day(7);
        t.warn(2, 9);
        int[] first = {3, 8, 6, -1};
        int[] second = {2, 9, 7, -1};
        for (int what = 0; what < 4; what++) {
            Checks.due("warning(0, " + what + ")", t.warning(0, what), first[what]);
            Checks.due("warning(1, " + what + ")", t.warning(1, what), second[what]);
        }
        t.day(8);
        t.cancel(1);
        second[3] = 8;
        for (int what = 0; what < 4; what++) {
            Checks.due("one cancelled: warning(0, " + what + ")", t.warning(0, what), first[what]);
            Checks.due("one cancelled: warning(1, " + what + ")", t.warning(1, what), second[what]);
        }
    }
}

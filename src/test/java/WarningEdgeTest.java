/** Terms III and promises 15 to 19: each sentence that names a boundary case has a test of its own. */
public final class WarningEdgeTest {
    public static void main(String[] args) {
        whatFor();
        marksOfWarnings();
        refusedWarnTakesNoNumber();
        oneOfAKind();
        anotherOnceCancelled();
        hundredWarnings();
        hundredStandThoughCancelled();
        cancelOfOthers();
        cancelTwice();
        outFromTheDayTold();
        outTillTheDayAheadOfCancelling();
        cancelledOnItsFirstDay();
        cancelledTheNextDay();
        outWhileNotCancelled();
        firstAndLastDay();
        listOfOtherDays();
        listOfNone();
        listedByNumbers();
        listedOfOthers();
        listedOfOtherDays();
        warningOfOthers();
        warningNotCancelled();
        Checks.finish();
    }

    private static BuoyTender withMarks(int many) {
        BuoyTender t = new BuoyTender();
        for (int i = 0; i < many; i++) {
            t.mark(i, i, 0);
        }
        return t;
    }

    /** All that were in force on a DAY. */
    private static void dueOn(BuoyTender t, int day, int... numbers) {
        Checks.due("list(" + day + ")", t.list(day), numbers.length);
        for (int i = 0; i < numbers.length; i++) {
            Checks.due("listed(" + day + ", " + i + ")", t.listed(day, i), numbers[i]);
        }
        Checks.none("listed(" + day + ", " + numbers.length + ")", t.listed(day, numbers.length));
        Checks.none("listed(" + day + ", -1)", t.listed(day, -1));
    }

    /** "what for (1 .. 9)". */
    private static void whatFor() {
        Checks.bounds("warn(0, _)", 1, 9, v -> withMarks(1).warn(0, v) == 0);
        BuoyTender t = withMarks(1);
        for (int v : Checks.wild(1, 9)) {
            Checks.none("warn(0, " + v + ")", t.warn(0, v));
        }
        for (int kind = 1; kind <= 9; kind++) {
            Checks.due("warn(0, " + kind + ")", t.warn(0, kind), kind - 1);
            Checks.due("what it is for", t.warning(kind - 1, 1), kind);
        }
    }

    private static void marksOfWarnings() {
        Checks.bounds("warn(_, 1)", 0, 0, v -> withMarks(1).warn(v, 1) == 0);
        Checks.bounds("warn(_, 1)", 0, 9, v -> withMarks(10).warn(v, 1) == 0);
        BuoyTender t = withMarks(10);
        t.warn(9, 1);
        t.warn(0, 1);
        Checks.due("the last mark", t.warning(0, 0), 9);
        Checks.due("the first mark", t.warning(1, 0), 0);
    }

    private static void refusedWarnTakesNoNumber() {
        BuoyTender t = withMarks(1);
        Checks.none("warn(0, 0)", t.warn(0, 0));
        Checks.none("warn(0, 10)", t.warn(0, 10));
        Checks.none("warn(1, 1)", t.warn(1, 1));
        Checks.due("about(2)", t.about(2), 0);
        Checks.due("warn(0, 1)", t.warn(0, 1), 0);
        Checks.none("warn(0, 1) again", t.warn(0, 1));
        Checks.due("about(2)", t.about(2), 1);
        dueOn(t, 0, 0);
        Checks.due("warn(0, 2)", t.warn(0, 2), 1);
    }

    /** "A mark has one of a kind at most that isn't cancelled." */
    private static void oneOfAKind() {
        BuoyTender t = withMarks(2);
        Checks.due("warn(0, 4)", t.warn(0, 4), 0);
        Checks.none("the same", t.warn(0, 4));
        Checks.due("another kind", t.warn(0, 5), 1);
        Checks.due("another mark", t.warn(1, 4), 2);
        t.day(10000);
        Checks.none("however long ago", t.warn(0, 4));
    }

    private static void anotherOnceCancelled() {
        BuoyTender t = withMarks(1);
        t.warn(0, 4);
        t.cancel(0);
        Checks.due("on the same DAY", t.warn(0, 4), 1);
        Checks.none("not two of them", t.warn(0, 4));
        t.day(3);
        t.cancel(1);
        t.day(4);
        Checks.due("on a later DAY", t.warn(0, 4), 2);
        Checks.none("not two of them", t.warn(0, 4));
        dueOn(t, 0, 1);
        dueOn(t, 2, 1);
        dueOn(t, 3);
        dueOn(t, 4, 2);
    }

    private static BuoyTender withHundred() {
        BuoyTender t = withMarks(10);
        for (int i = 0; i < 90; i++) {
            Checks.due("warning " + i, t.warn(i / 9, i % 9 + 1), i);
        }
        for (int i = 0; i < 10; i++) {
            t.cancel(i);
            Checks.due("warning " + (90 + i), t.warn(i / 9, i % 9 + 1), 90 + i);
        }
        return t;
    }

    /** "WARNINGS 0 .. 99", "NONE: .. there are 100". */
    private static void hundredWarnings() {
        BuoyTender t = withHundred();
        Checks.due("about(2)", t.about(2), 100);
        Checks.due("list(0)", t.list(0), 90);
        Checks.due("listed(0, 0)", t.listed(0, 0), 10);
        Checks.due("listed(0, 89)", t.listed(0, 89), 99);
        Checks.none("listed(0, 90)", t.listed(0, 90));
        Checks.due("warning(99, 0)", t.warning(99, 0), 1);
        Checks.due("warning(99, 1)", t.warning(99, 1), 1);
        Checks.none("warning(100, 0)", t.warning(100, 0));
        Checks.no("cancel(100)", t.cancel(100));
        Checks.yes("cancel(99)", t.cancel(99));
    }

    private static void hundredStandThoughCancelled() {
        BuoyTender t = withHundred();
        for (int w = 10; w < 100; w++) {
            Checks.yes("cancel(" + w + ")", t.cancel(w));
        }
        Checks.none("a hundred and first", t.warn(5, 5));
        Checks.due("about(2)", t.about(2), 100);
        Checks.due("list(0)", t.list(0), 0);
    }

    /** "False: there is none such". */
    private static void cancelOfOthers() {
        BuoyTender t = withMarks(1);
        Checks.no("cancel(0), none yet", t.cancel(0));
        t.warn(0, 1);
        t.warn(0, 2);
        for (int v : Checks.wild(0, 1)) {
            Checks.no("cancel(" + v + ")", t.cancel(v));
        }
        dueOn(t, 0, 0, 1);
        Checks.yes("cancel(0)", t.cancel(0));
        Checks.yes("cancel(1)", t.cancel(1));
    }

    /** "or it is": the DAY on which it was cancelled stays. */
    private static void cancelTwice() {
        BuoyTender t = withMarks(1);
        t.warn(0, 1);
        t.day(5);
        t.cancel(0);
        Checks.no("on the same DAY", t.cancel(0));
        t.day(8);
        Checks.no("on a later DAY", t.cancel(0));
        Checks.due("warning(0, 3)", t.warning(0, 3), 5);
        dueOn(t, 4, 0);
        dueOn(t, 5);
    }

    /** "OUT from the DAY at which it was told". */
    private static void outFromTheDayTold() {
        BuoyTender t = withMarks(1);
        t.day(10);
        t.warn(0, 1);
        t.day(20);
        dueOn(t, 9);
        dueOn(t, 10, 0);
        dueOn(t, 11, 0);
        Checks.due("warning(0, 2)", t.warning(0, 2), 10);
    }

    /** "till the DAY on which it is cancelled (the DAY ahead of that one is its last)". */
    private static void outTillTheDayAheadOfCancelling() {
        BuoyTender t = withMarks(1);
        t.day(10);
        t.warn(0, 1);
        t.day(20);
        t.cancel(0);
        dueOn(t, 20);
        t.day(30);
        dueOn(t, 10, 0);
        dueOn(t, 19, 0);
        dueOn(t, 20);
        dueOn(t, 21);
        dueOn(t, 30);
    }

    private static void cancelledOnItsFirstDay() {
        BuoyTender t = withMarks(1);
        t.day(10);
        t.warn(0, 1);
        dueOn(t, 10, 0);
        t.cancel(0);
        t.day(12);
        dueOn(t, 9);
        dueOn(t, 10);
        dueOn(t, 11);
        Checks.due("told", t.warning(0, 2), 10);
        Checks.due("cancelled", t.warning(0, 3), 10);
    }

    private static void cancelledTheNextDay() {
        BuoyTender t = withMarks(1);
        t.day(10);
        t.warn(0, 1);
        t.day(11);
        t.cancel(0);
        dueOn(t, 9);
        dueOn(t, 10, 0);
        dueOn(t, 11);
    }

    private static void outWhileNotCancelled() {
        BuoyTender t = withMarks(1);
        t.warn(0, 1);
        t.day(10000);
        dueOn(t, 0, 0);
        dueOn(t, 5000, 0);
        dueOn(t, 10000, 0);
    }

    private static void firstAndLastDay() {
        BuoyTender t = withMarks(1);
        t.warn(0, 1);
        t.cancel(0);
        t.warn(0, 1);
        t.day(10000);
        t.cancel(1);
        t.warn(0, 1);
        dueOn(t, 0, 1);
        dueOn(t, 9999, 1);
        dueOn(t, 10000, 2);
        Checks.due("told on the first", t.warning(0, 2), 0);
        Checks.due("cancelled on the first", t.warning(0, 3), 0);
        Checks.due("cancelled on the last", t.warning(1, 3), 10000);
        Checks.due("told on the last", t.warning(2, 2), 10000);
    }

    /** "a DAY (0 to the clock's). NONE for others." */
    private static void listOfOtherDays() {
        BuoyTender t = withMarks(1);
        t.warn(0, 1);
        Checks.bounds("list(_)", 0, 0, v -> t.list(v) != BuoyTender.NONE);
        t.day(22);
        Checks.bounds("list(_)", 0, 22, v -> t.list(v) != BuoyTender.NONE);
        t.day(10000);
        Checks.bounds("list(_)", 0, 10000, v -> t.list(v) != BuoyTender.NONE);
        for (int v : Checks.wild(0, 10000)) {
            Checks.none("list(" + v + ")", t.list(v));
        }
    }

    /** None in force is 0, and no wrong DAY. */
    private static void listOfNone() {
        BuoyTender t = withMarks(1);
        dueOn(t, 0);
        t.day(3);
        dueOn(t, 0);
        dueOn(t, 3);
    }

    /** "by numbers": those between that were cancelled don't count. */
    private static void listedByNumbers() {
        BuoyTender t = withMarks(5);
        for (int i = 0; i < 5; i++) {
            t.warn(4 - i, 9 - i);
        }
        t.day(1);
        t.cancel(3);
        t.cancel(0);
        dueOn(t, 0, 0, 1, 2, 3, 4);
        dueOn(t, 1, 1, 2, 4);
    }

    /** "NONE if there is none such": of i. */
    private static void listedOfOthers() {
        BuoyTender t = withMarks(1);
        t.warn(0, 1);
        t.warn(0, 2);
        Checks.bounds("listed(0, _)", 0, 1, v -> t.listed(0, v) != BuoyTender.NONE);
        for (int v : Checks.wild(0, 1)) {
            Checks.none("listed(0, " + v + ")", t.listed(0, v));
        }
    }

    /** "NONE if there is none such": of the DAY, as list has it. */
    private static void listedOfOtherDays() {
        BuoyTender t = withMarks(1);
        t.warn(0, 1);
        t.day(22);
        Checks.bounds("listed(_, 0)", 0, 22, v -> t.listed(v, 0) != BuoyTender.NONE);
        for (int v : Checks.wild(0, 22)) {
            Checks.none("listed(" + v + ", 0)", t.listed(v, 0));
        }
    }

    /** "NONE for others." */
    private static void warningOfOthers() {
        BuoyTender t = withMarks(1);
        t.warn(0, 1);
        t.warn(0, 2);
        t.cancel(0);
        t.cancel(1);
        for (int i = 0; i <= 3; i++) {
            int what = i;
            Checks.bounds("warning(_, " + what + ")", 0, 1, v -> t.warning(v, what) != BuoyTender.NONE);
            for (int v : Checks.wild(0, 1)) {
                Checks.none("warning(" + v + ", " + what + ")", t.warning(v, what));
            }
        }
        Checks.bounds("warning(0, _)", 0, 3, v -> t.warning(0, v) != BuoyTender.NONE);
        Checks.none("warning(0, 4)", t.warning(0, 4));
    }

    /** "3 DAY cancelled (NONE)". */
    private static void warningNotCancelled() {
        BuoyTender t = withMarks(1);
        t.warn(0, 1);
        t.warn(0, 2);
        Checks.none("warning(0, 3)", t.warning(0, 3));
        t.cancel(0);
        Checks.due("cancelled on DAY 0", t.warning(0, 3), 0);
        Checks.none("the other", t.warning(1, 3));
    }
}

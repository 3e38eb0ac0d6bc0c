/** Counts the answers of one test and tells those that are not as due. */
final class Checks {
    private static int asked = 0;
    private static int wrong = 0;

    private Checks() {
    }

    static void due(String call, long got, long want) {
        asked++;
        if (got != want) {
            wrong++;
            if (wrong <= 50) {
                System.out.println(call + " answered " + got + ", due is " + want);
            }
        }
    }

    static void due(String call, boolean got, boolean want) {
        due(call, got ? 1L : 0L, want ? 1L : 0L);
    }

    static void yes(String call, boolean got) {
        due(call, got, true);
    }

    static void no(String call, boolean got) {
        due(call, got, false);
    }

    static void none(String call, long got) {
        due(call, got, -1L);
    }

    /** A call as its one argument goes, the others being right: whether it is taken. */
    interface Taking {
        boolean takes(int v);
    }

    /** The last number taken and the first one refused, on both sides; the argument's place in the call is a "_". */
    static void bounds(String call, int least, int most, Taking taking) {
        yes(call.replace("_", "" + least), taking.takes(least));
        yes(call.replace("_", "" + most), taking.takes(most));
        for (int v : wild(least, most)) {
            no(call.replace("_", "" + v), taking.takes(v));
        }
    }

    /** Numbers that no argument of any call may be answered for: just outside, and far outside. */
    static int[] wild(int least, int most) {
        return new int[] {least - 1, most + 1, Integer.MIN_VALUE, Integer.MAX_VALUE};
    }

    static void finish() {
        System.out.println(asked + " answers asked for, " + wrong + " of them not as due");
        if (wrong != 0 || asked == 0) {
            System.exit(1);
        }
    }
}

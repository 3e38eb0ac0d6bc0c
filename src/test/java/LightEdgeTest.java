/** Terms II (lights) and promises 12 to 14: each sentence that names a boundary case has a test of its own. */
public final class LightEdgeTest {
    public static void main(String[] args) {
        howManySteps();
        stepsOneToNine();
        digitZero();
        moreDigits();
        fewerDigits();
        numbersBelowZero();
        firstStepInTheLowestDigit();
        noneWhateverTheSteps();
        refusedLightLeavesTheOld();
        alikeWithoutTurn();
        alikeTurnedByTwo();
        notAlikeTurnedByOne();
        notAlikeOfOtherLength();
        nearnessNumbers();
        nearnessJustReached();
        nearnessOfZero();
        farthestMarks();
        ownMarkDoesNotCount();
        oneNearAmongMany();
        darkOnesDoNotCount();
        nearRefused();
        nearBetweenTheLastTwo();
        alikeOfOthers();
        alikeOfTheSame();
        alikeWithoutRhythm();
        Checks.finish();
    }

    /** Two marks as far apart as can be. */
    private static BuoyTender two() {
        BuoyTender t = new BuoyTender();
        t.mark(0, 0, 0);
        t.mark(39, 39, 0);
        return t;
    }

    private static int repeated(int digit, int many) {
        int number = 0;
        for (int i = 0; i < many; i++) {
            number = number * 10 + digit;
        }
        return number;
    }

    private static int alikeOf(int many, int one, int other) {
        BuoyTender t = two();
        t.light(0, many, one);
        t.light(1, many, other);
        Checks.due("alike of " + other + " and " + one, t.alike(1, 0), t.alike(0, 1));
        return t.alike(0, 1);
    }

    /** "1 to 8 steps", "an even number of them". */
    private static void howManySteps() {
        for (int many = -10; many <= 10; many++) {
            boolean right = many == 2 || many == 4 || many == 6 || many == 8;
            if (many != 0) {
                int steps = repeated(1, Math.min(9, Math.abs(many)));
                Checks.due("light(0, " + many + ", " + steps + ")", two().light(0, many, steps), right);
            }
        }
        Checks.no("light(0, 10, 1111111111)", two().light(0, 10, 1111111111));
        Checks.no("the most of all", two().light(0, Integer.MAX_VALUE, 11));
        Checks.no("the least of all", two().light(0, Integer.MIN_VALUE, 11));
    }

    /** "steps of 1 .. 9". */
    private static void stepsOneToNine() {
        for (int many = 2; many <= 8; many += 2) {
            for (int digit = 1; digit <= 9; digit++) {
                int steps = repeated(digit, many);
                Checks.yes("light(0, " + many + ", " + steps + ")", two().light(0, many, steps));
            }
        }
    }

    /** "False: .. a digit 0": wherever it stands. */
    private static void digitZero() {
        for (int many = 2; many <= 8; many += 2) {
            int place = 1;
            for (int i = 0; i < many; i++) {
                int steps = repeated(1, many) - place;
                Checks.no("light(0, " + many + ", " + steps + ")", two().light(0, many, steps));
                place *= 10;
            }
            Checks.no("light(0, " + many + ", 0)", two().light(0, many, 0));
        }
    }

    /** "False: .. more digits". */
    private static void moreDigits() {
        for (int many = 2; many <= 8; many += 2) {
            int steps = repeated(1, many + 1);
            Checks.no("light(0, " + many + ", " + steps + ")", two().light(0, many, steps));
            Checks.no("the most of all", two().light(0, many, Integer.MAX_VALUE));
        }
        Checks.no("a 0 ahead of the digits that are too many", two().light(0, 2, 1011));
        Checks.no("one of more digits behind eight", two().light(0, 8, 1012345678));
    }

    private static void fewerDigits() {
        for (int many = 2; many <= 8; many += 2) {
            int steps = repeated(1, many - 1);
            Checks.no("light(0, " + many + ", " + steps + ")", two().light(0, many, steps));
        }
    }

    private static void numbersBelowZero() {
        for (int many = 2; many <= 8; many += 2) {
            Checks.no("below 0", two().light(0, many, -repeated(1, many)));
            Checks.no("-1", two().light(0, many, -1));
            Checks.no("the least of all", two().light(0, many, Integer.MIN_VALUE));
        }
    }

    /** "the first one in the lowest digit": 1 light, 2 dark is told by 21. */
    private static void firstStepInTheLowestDigit() {
        Checks.due("6 steps told from the other end", alikeOf(6, 654321, 123456), 0);
        Checks.due("3, 4, 5, 6, 1, 2", alikeOf(6, 654321, 216543), 1);
    }

    /** "many 0: it has none (steps don't count)". */
    private static void noneWhateverTheSteps() {
        int[] steps = {0, 1, -1, 10, 11, 111111111, Integer.MAX_VALUE, Integer.MIN_VALUE};
        for (int s : steps) {
            BuoyTender t = two();
            Checks.yes("none where there is none, steps " + s, t.light(0, 0, s));
            t.light(0, 2, 11);
            t.light(1, 2, 11);
            Checks.due("both", t.alike(0, 1), 1);
            Checks.yes("none in place of one, steps " + s, t.light(0, 0, s));
            Checks.none("it has none", t.alike(0, 1));
        }
    }

    private static void refusedLightLeavesTheOld() {
        BuoyTender t = two();
        t.mark(39, 39, 0);
        t.light(0, 4, 4321);
        t.light(1, 4, 2143);
        t.light(2, 2, 55);
        int[][] wrong = {{4, 4320}, {4, 54321}, {4, 432}, {3, 432}, {9, 4321}, {-4, 4321}, {2, 55}, {2, 5}, {8, 1},
            {4, -4321}};
        for (int[] w : wrong) {
            Checks.no("light(1, " + w[0] + ", " + w[1] + ")", t.light(1, w[0], w[1]));
            Checks.due("the old one stays", t.alike(0, 1), 1);
            Checks.due("and the other's", t.alike(0, 2), 0);
        }
    }

    private static void alikeWithoutTurn() {
        Checks.due("2 steps", alikeOf(2, 21, 21), 1);
        Checks.due("4 steps", alikeOf(4, 4321, 4321), 1);
        Checks.due("6 steps", alikeOf(6, 654321, 654321), 1);
        Checks.due("8 steps", alikeOf(8, 87654321, 87654321), 1);
        Checks.due("the first differs", alikeOf(8, 87654321, 87654322), 0);
        Checks.due("the last differs", alikeOf(8, 87654321, 97654321), 0);
        Checks.due("the last of 2 differs", alikeOf(2, 21, 11), 0);
        Checks.due("the first of 2 differs", alikeOf(2, 21, 22), 0);
    }

    /** "begun with its first, third, fifth .. step and gone round": also with the last but one. */
    private static void alikeTurnedByTwo() {
        Checks.due("third of 4", alikeOf(4, 4321, 2143), 1);
        Checks.due("third of 6", alikeOf(6, 654321, 216543), 1);
        Checks.due("fifth of 6", alikeOf(6, 654321, 432165), 1);
        Checks.due("third of 8", alikeOf(8, 87654321, 21876543), 1);
        Checks.due("fifth of 8", alikeOf(8, 87654321, 43218765), 1);
        Checks.due("seventh of 8", alikeOf(8, 87654321, 65432187), 1);
    }

    private static void notAlikeTurnedByOne() {
        Checks.due("second of 2", alikeOf(2, 21, 12), 0);
        Checks.due("second of 4", alikeOf(4, 4321, 1432), 0);
        Checks.due("fourth of 4", alikeOf(4, 4321, 3214), 0);
        Checks.due("second of 8", alikeOf(8, 87654321, 18765432), 0);
        Checks.due("eighth of 8", alikeOf(8, 87654321, 76543218), 0);
        Checks.due("second of 4, the same light and dark", alikeOf(4, 2121, 1212), 0);
        Checks.due("second of 4, where it comes to the same", alikeOf(4, 1111, 1111), 1);
    }

    private static void notAlikeOfOtherLength() {
        int[][] pairs = {{2, 21, 4, 2121}, {2, 11, 8, 11111111}, {4, 4321, 8, 43214321}, {6, 111111, 4, 1111}};
        for (int[] p : pairs) {
            BuoyTender t = two();
            t.light(0, p[0], p[1]);
            t.light(1, p[2], p[3]);
            Checks.due(p[1] + " and " + p[3], t.alike(0, 1), 0);
            Checks.due(p[3] + " and " + p[1], t.alike(1, 0), 0);
        }
    }

    /** "NEARNESS (0 .. 5000 ..)". */
    private static void nearnessNumbers() {
        BuoyTender t = two();
        Checks.bounds("near(_)", 0, 5000, t::near);
        t.near(5000);
        Checks.due("the most", t.about(3), 5000);
        for (int v : Checks.wild(0, 5000)) {
            Checks.no("near(" + v + ")", t.near(v));
            Checks.due("refused, it changes nothing", t.about(3), 5000);
        }
        t.near(0);
        Checks.due("the least", t.about(3), 0);
    }

    /** "NEAR: the square of the way between stations is not above NEARNESS": the same is not above. */
    private static void nearnessJustReached() {
        int[][] stations = {{13, 14}, {7, 6}, {15, 10}, {10, 5}, {6, 13}};
        for (int[] s : stations) {
            BuoyTender t = new BuoyTender();
            t.mark(10, 10, 0);
            t.mark(s[0], s[1], 0);
            t.light(0, 2, 21);
            t.near(25);
            Checks.no("25 of 25", t.light(1, 2, 21));
            Checks.yes("another one", t.light(1, 2, 22));
            t.light(1, 0, 0);
            t.near(24);
            Checks.yes("25 of 24", t.light(1, 2, 21));
        }
    }

    private static void nearnessOfZero() {
        BuoyTender t = new BuoyTender();
        t.mark(10, 10, 0);
        t.mark(10, 10, 0);
        t.mark(11, 10, 0);
        t.light(0, 2, 21);
        t.near(0);
        Checks.no("0 of 0", t.light(1, 2, 21));
        Checks.yes("1 of 0", t.light(2, 2, 21));
    }

    /** From corner to corner the square is 3042. */
    private static void farthestMarks() {
        BuoyTender t = two();
        t.light(0, 2, 21);
        t.near(3041);
        Checks.yes("3042 of 3041", t.light(1, 2, 21));
        Checks.no("near(3042)", t.near(3042));
        t.light(1, 0, 0);
        t.near(3042);
        Checks.no("3042 of 3042", t.light(1, 2, 21));
        t.near(5000);
        Checks.no("3042 of 5000", t.light(1, 2, 21));
    }

    /** "whose own mark doesn't count". */
    private static void ownMarkDoesNotCount() {
        BuoyTender t = two();
        t.near(5000);
        t.light(0, 4, 4321);
        Checks.yes("the same again", t.light(0, 4, 4321));
        Checks.yes("its own, turned", t.light(0, 4, 2143));
        Checks.yes("near with one light", t.near(4999));
    }

    /** "one NEAR has one ALIKE": whichever of the other nine it is. */
    private static void oneNearAmongMany() {
        for (int lit = 0; lit < 10; lit++) {
            BuoyTender t = new BuoyTender();
            for (int i = 0; i < 10; i++) {
                t.mark(i, 0, 0);
            }
            t.near(5000);
            t.light(lit, 2, 21);
            for (int i = 0; i < 10; i++) {
                Checks.due("light of " + i + ", as " + lit + " has", t.light(i, 2, 21), i == lit);
            }
        }
    }

    private static void darkOnesDoNotCount() {
        BuoyTender t = new BuoyTender();
        t.mark(5, 5, 0);
        t.mark(5, 5, 0);
        t.light(0, 2, 21);
        t.light(0, 0, 0);
        Checks.yes("the other is dark again", t.light(1, 2, 21));
        Checks.no("and now this one is lit", t.light(0, 2, 21));
        t.light(1, 0, 0);
        Checks.yes("near, both dark", t.near(5000));
    }

    /** "False .. if lights ALIKE would be NEAR". */
    private static void nearRefused() {
        BuoyTender t = new BuoyTender();
        t.mark(10, 10, 0);
        t.mark(13, 14, 0);
        t.light(0, 4, 4321);
        t.light(1, 4, 2143);
        Checks.yes("near(24)", t.near(24));
        Checks.no("near(25)", t.near(25));
        Checks.due("refused, it changes nothing", t.about(3), 24);
        Checks.no("near(5000)", t.near(5000));
        Checks.yes("near(0)", t.near(0));
        t.light(1, 4, 3214);
        Checks.yes("near(25), not ALIKE", t.near(25));
    }

    private static void nearBetweenTheLastTwo() {
        BuoyTender t = new BuoyTender();
        for (int i = 0; i < 10; i++) {
            t.mark(i, 0, 0);
        }
        t.light(8, 2, 21);
        t.light(9, 2, 21);
        Checks.no("near(1)", t.near(1));
        t.light(9, 0, 0);
        t.light(0, 2, 21);
        Checks.yes("near(63)", t.near(63));
        Checks.no("near(64)", t.near(64));
    }

    /** "NONE: none such". */
    private static void alikeOfOthers() {
        BuoyTender t = two();
        t.light(0, 2, 11);
        t.light(1, 2, 11);
        for (int v : Checks.wild(0, 1)) {
            Checks.none("alike(" + v + ", 0)", t.alike(v, 0));
            Checks.none("alike(0, " + v + ")", t.alike(0, v));
            Checks.none("alike(1, " + v + ")", t.alike(1, v));
            Checks.none("alike(" + v + ", " + v + ")", t.alike(v, v));
        }
    }

    /** "NONE: .. the same". */
    private static void alikeOfTheSame() {
        BuoyTender t = two();
        t.light(0, 2, 11);
        t.light(1, 2, 11);
        Checks.none("alike(0, 0)", t.alike(0, 0));
        Checks.none("alike(1, 1)", t.alike(1, 1));
        Checks.due("alike(0, 1)", t.alike(0, 1), 1);
        Checks.due("alike(1, 0)", t.alike(1, 0), 1);
    }

    /** "NONE: .. or one has none". */
    private static void alikeWithoutRhythm() {
        BuoyTender t = two();
        Checks.none("neither has one", t.alike(0, 1));
        t.light(0, 2, 11);
        Checks.none("the other has none", t.alike(0, 1));
        Checks.none("the one has none", t.alike(1, 0));
    }
}

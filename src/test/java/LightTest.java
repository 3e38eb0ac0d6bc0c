/** Promises 12 to 14: light, near, alike. */
public final class LightTest {
    public static void main(String[] args) {
        rhythmsRead();
        rhythmsTurned();
        lightNear();
        lightInPlaceOfOne();
        nearWithLights();
        Checks.finish();
    }

    /** Two marks far apart. */
    private static BuoyTender two() {
        BuoyTender t = new BuoyTender();
        t.mark(0, 0, 0);
        t.mark(39, 39, 0);
        return t;
    }

    private static void alikeOf(int many, int one, int manyOther, int other, int want) {
        BuoyTender t = two();
        Checks.yes("light(0, " + many + ", " + one + ")", t.light(0, many, one));
        Checks.yes("light(1, " + manyOther + ", " + other + ")", t.light(1, manyOther, other));
        Checks.due("alike of " + one + " and " + other, t.alike(0, 1), want);
        Checks.due("alike of " + other + " and " + one, t.alike(1, 0), want);
    }

    private static void rhythmsRead() {
        alikeOf(2, 21, 2, 21, 1);
        alikeOf(2, 21, 2, 12, 0);
        alikeOf(2, 21, 2, 22, 0);
        alikeOf(2, 21, 2, 11, 0);
        alikeOf(2, 21, 4, 2121, 0);
        alikeOf(4, 1111, 2, 11, 0);
        alikeOf(2, 11, 8, 11111111, 0);
        alikeOf(8, 12345678, 8, 12345678, 1);
        alikeOf(8, 12345678, 8, 12345679, 0);
        alikeOf(8, 12345678, 8, 92345678, 0);
    }

    private static void rhythmsTurned() {
        alikeOf(4, 4321, 4, 2143, 1);
        alikeOf(4, 4321, 4, 3214, 0);
        alikeOf(4, 4321, 4, 1432, 0);
        alikeOf(4, 4321, 4, 1234, 0);
        alikeOf(6, 654321, 6, 216543, 1);
        alikeOf(6, 654321, 6, 432165, 1);
        alikeOf(6, 654321, 6, 543216, 0);
        alikeOf(6, 654321, 6, 321654, 0);
        alikeOf(8, 87654321, 8, 21876543, 1);
        alikeOf(8, 87654321, 8, 43218765, 1);
        alikeOf(8, 87654321, 8, 65432187, 1);
        alikeOf(8, 87654321, 8, 18765432, 0);
        alikeOf(8, 87654321, 8, 54321876, 0);
    }

    private static void lightNear() {
        BuoyTender t = new BuoyTender();
        t.mark(10, 10, 0);
        t.mark(10, 10, 0);
        t.mark(13, 14, 0);
        t.light(0, 4, 4321);
        Checks.no("on the same station", t.light(1, 4, 2143));
        Checks.none("false changes nothing", t.alike(0, 1));
        Checks.yes("on the same station, not ALIKE", t.light(1, 4, 3214));
        Checks.yes("NEARNESS 0", t.light(2, 4, 4321));
        t.light(2, 0, 0);
        t.near(24);
        Checks.yes("just beyond NEARNESS", t.light(2, 4, 4321));
        t.light(2, 0, 0);
        t.near(25);
        Checks.no("just within NEARNESS", t.light(2, 4, 4321));
        Checks.no("just within NEARNESS of another", t.light(2, 4, 1432));
        Checks.yes("another one", t.light(2, 4, 4322));
        t.light(0, 0, 0);
        Checks.yes("the one is dark now", t.light(2, 4, 4321));
    }

    private static void lightInPlaceOfOne() {
        BuoyTender t = new BuoyTender();
        t.mark(10, 10, 0);
        t.mark(11, 10, 0);
        t.near(1);
        t.light(0, 2, 21);
        Checks.yes("its own doesn't count", t.light(0, 2, 21));
        Checks.yes("its own, turned", t.light(0, 4, 4321));
        Checks.yes("its own, turned", t.light(0, 4, 2143));
        t.light(1, 2, 33);
        Checks.no("light(1, 4, 4321)", t.light(1, 4, 4321));
        Checks.due("the old one stays", t.alike(0, 1), 0);
        Checks.no("light(0, 2, 33)", t.light(0, 2, 33));
        Checks.yes("shorter in place of longer", t.light(0, 2, 43));
        Checks.yes("and the longer is free", t.light(1, 4, 2143));
    }

    private static void nearWithLights() {
        BuoyTender t = two();
        t.mark(36, 35, 0);
        t.light(1, 4, 4321);
        t.light(2, 4, 2143);
        Checks.yes("near(24)", t.near(24));
        Checks.no("near(25)", t.near(25));
        Checks.no("near(5000)", t.near(5000));
        Checks.due("about(3)", t.about(3), 24);
        t.light(2, 4, 2144);
        Checks.yes("near(5000), none ALIKE", t.near(5000));
        Checks.yes("near(3041)", t.near(3041));
        Checks.yes("3042 lie between", t.light(0, 4, 4321));
        Checks.no("near(3042)", t.near(3042));
        Checks.due("about(3)", t.about(3), 3041);
        t.light(1, 0, 0);
        Checks.yes("near(3042), one dark", t.near(3042));
    }
}

import java.util.ArrayList;
import java.util.List;

/** An object with something of all kinds in it, and all that can be seen of it: what is changed in it shows. */
final class Looks {
    private static final int[] MARKS = {10, 10, 5, 13, 14, 3, 30, 30, 0, 10, 10, 20};

    private final BuoyTender tender;
    private final List<String> seen = new ArrayList<>();

    private Looks(BuoyTender tender) {
        this.tender = tender;
    }

    /** Four marks, 0 and 3 on one station; all is such that other numbers would be answered otherwise. */
    static BuoyTender full() {
        BuoyTender t = new BuoyTender();
        for (int i = 0; i < MARKS.length; i += 3) {
            t.mark(MARKS[i], MARKS[i + 1], MARKS[i + 2]);
        }
        t.depth(0, 0, 39, 39, 10);
        t.depth(20, 0, 39, 39, 20);
        t.bearing(0, 1, 1, 0, 1, 2);
        t.sounding(0, 10, 15);
        t.sounding(1, 15, 25);
        t.bearing(2, 0, 1, 1, 1, 1);
        t.bearing(3, 1, 1, 1, 1, 2);
        fillMonths(t);
        fillRound(t);
        return t;
    }

    private static void fillMonths(BuoyTender t) {
        for (int kind = 0; kind < 4; kind++) {
            t.wear(kind, 1, 1 + kind);
            t.wear(kind, 4, 5 + kind);
            t.chain(kind, 900 + kind, 800, kind);
        }
        t.light(0, 4, 4321);
        t.light(1, 2, 21);
        t.light(2, 4, 2143);
        t.near(25);
        t.warn(0, 3);
        t.day(40);
        t.warn(1, 4);
        t.chain(1, 950, 700, 1);
        t.day(95);
        t.cancel(0);
        t.warn(0, 3);
        t.day(100);
    }

    private static void fillRound(BuoyTender t) {
        t.ship(2, 12, 5, 12);
        t.at(10, 12, 7, 400);
        t.weather(0, 1, 3);
        t.weather(1, 2, 6);
        for (int hour = 2; hour < 24; hour++) {
            t.weather(hour, 2, 5);
        }
        t.job(0, 9, 5, 6);
        t.job(1, 8, 4, 7);
        t.job(2, 7, 6, 8);
    }

    /** All that is answered, first without and then with changing it: the object is of no use behind this. */
    static List<String> of(BuoyTender t) {
        Looks looks = new Looks(t);
        looks.ask();
        looks.tryDepths();
        looks.tryLights();
        looks.tryMonths();
        looks.tryHours();
        return looks.seen;
    }

    private void see(String call, int answer) {
        seen.add(call + " answered " + answer);
    }

    private void see(String call, boolean answer) {
        seen.add(call + " answered " + answer);
    }

    private void ask() {
        for (int what = 0; what <= 5; what++) {
            see("about(" + what + ")", tender.about(what));
        }
        for (int m = 0; m < 5; m++) {
            for (int what = 0; what <= 8; what++) {
                see("lies(" + m + ", " + what + ")", tender.lies(m, what));
            }
            for (int what = 0; what <= 2; what++) {
                see("chainOf(" + m + ", " + what + ")", tender.chainOf(m, what));
            }
            see("alike(" + m + ", next)", tender.alike(m, (m + 1) % 4));
            see("alike(" + m + ", next but one)", tender.alike(m, (m + 2) % 4));
        }
        for (int w = 0; w < 4; w++) {
            for (int what = 0; what <= 3; what++) {
                see("warning(" + w + ", " + what + ")", tender.warning(w, what));
            }
        }
        for (int day : new int[] {0, 39, 40, 94, 95, 100, 101}) {
            see("list(" + day + ")", tender.list(day));
            for (int i = 0; i < 4; i++) {
                see("listed(" + day + ", " + i + ")", tender.listed(day, i));
            }
        }
        for (int i = 0; i <= 4; i++) {
            see("round(" + i + ")", tender.round(i));
            see("round(" + (100 + i) + ")", tender.round(100 + i));
            see("round(" + (200 + i) + ")", tender.round(200 + i));
        }
    }

    private void tryDepths() {
        int[][] told = {{0, 200}, {10, 20}, {10, 10}, {20, 20}};
        for (int[] s : told) {
            see("sight(3)", tender.sight(3));
            see("sounding(3, " + s[0] + ", " + s[1] + ")", tender.sounding(3, s[0], s[1]));
            for (int what = 1; what <= 5; what++) {
                see("lies(3, " + what + ")", tender.lies(3, what));
            }
        }
    }

    private void tryLights() {
        see("ALIKE 0's, on its station", tender.light(3, 4, 4321));
        see("ALIKE 1's, 25 away", tender.light(0, 2, 21));
        see("ALIKE 1's, far away", tender.light(2, 2, 21));
    }

    private void tryMonths() {
        for (int month = 4; month < 16; month++) {
            see("day of month " + month, tender.day(month * 30));
            for (int m = 0; m < 4; m++) {
                see("month " + month + ": chainOf(" + m + ", 0)", tender.chainOf(m, 0));
            }
        }
    }

    private void tryHours() {
        tender.ship(1, 12, 5, 1000);
        for (int hour = 0; hour < 24; hour++) {
            see("at hour " + hour, tender.at(10, 10, hour * 60 + 30, hour * 60 + 39));
            see("its WEIGHT", tender.round(0));
        }
    }
}

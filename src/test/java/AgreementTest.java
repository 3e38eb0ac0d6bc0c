import java.util.Random;

/** Long runs of calls drawn from fixed seeds: BuoyTender and the plain telling of the document answer alike. */
public final class AgreementTest {
    // An object is good for 512 calls: the last kind of call drawn may need some thirty.
    private static final int CALLS = 512 - 32;
    private static final int[] FAR = {-1, Integer.MIN_VALUE, Integer.MAX_VALUE, -1000, 1 << 20};

    private final Random random;
    private final BuoyTender tender = new BuoyTender();
    private final PlainTender plain = new PlainTender();
    private final String name;
    private int calls;
    private int day;

    private AgreementTest(long seed) {
        random = new Random(seed);
        name = "seed " + seed + ": ";
    }

    public static void main(String[] args) {
        for (long seed = 0; seed < 120; seed++) {
            AgreementTest t = new AgreementTest(seed);
            while (t.calls < CALLS) {
                t.anyCall();
            }
        }
        for (long seed = 1000; seed < 1250; seed++) {
            new AgreementTest(seed).rounds(2 + (int) (seed % 5));
        }
        for (long seed = 2000; seed < 2003; seed++) {
            new AgreementTest(seed).rounds(8);
        }
        Checks.finish();
    }

    private void same(String call, long got, long want) {
        calls++;
        Checks.due(name + call, got, want);
    }

    private void same(String call, boolean got, boolean want) {
        calls++;
        Checks.due(name + call, got, want);
    }

    private int from(int least, int most) {
        return least + random.nextInt(most - least + 1);
    }

    /** Mostly one of the bounds, sometimes just beside them, seldom far away. */
    private int some(int least, int most) {
        int draw = random.nextInt(60);
        if (draw == 0) {
            return FAR[random.nextInt(FAR.length)];
        }
        if (draw == 1) {
            return least - 1;
        }
        if (draw == 2) {
            return most + 1;
        }
        return draw < 6 ? least : draw < 9 ? most : from(least, most);
    }

    private int someMark() {
        return some(0, Math.max(0, plain.about(0) - 1));
    }

    private int someSteps(int many) {
        int steps = 0;
        for (int i = 0; i < Math.min(many, 9); i++) {
            steps = steps * 10 + (random.nextInt(60) == 0 ? from(0, 9) : from(1, 2));
        }
        return random.nextInt(20) == 0 ? from(-99, 99999) : steps;
    }

    private void anyCall() {
        int kind = random.nextInt(24);
        if (kind < 7) {
            chartCall(kind);
        } else if (kind < 13) {
            monthCall(kind);
        } else if (kind < 18) {
            warningCall(kind);
        } else {
            roundCall(kind);
        }
    }

    private void chartCall(int kind) {
        int m = someMark();
        switch (kind) {
            case 0: {
                int x = some(0, 39);
                int y = some(0, 39);
                int p = random.nextBoolean() ? some(0, 39) : x;
                int q = random.nextBoolean() ? some(0, 39) : y;
                int d = random.nextInt(3) == 0 ? some(0, 200) : from(0, 20);
                same("depth", tender.depth(x, y, p, q, d), plain.depth(x, y, p, q, d));
                break;
            }
            case 1: {
                int x = random.nextInt(3) == 0 ? from(10, 13) : some(0, 39);
                int y = random.nextInt(3) == 0 ? from(10, 13) : some(0, 39);
                int r = some(0, 20);
                same("mark", tender.mark(x, y, r), plain.mark(x, y, r));
                break;
            }
            case 2:
                same("sight", tender.sight(m), plain.sight(m));
                break;
            case 3: {
                int f = someMark();
                int reach = random.nextBoolean() ? 1000 : 3;
                int a = some(-reach, reach);
                int b = some(-reach, reach);
                int c = some(-reach, reach);
                int d = some(-reach, reach);
                same("bearing", tender.bearing(m, f, a, b, c, d), plain.bearing(m, f, a, b, c, d));
                break;
            }
            case 4: {
                int least = random.nextInt(3) == 0 ? some(0, 200) : from(0, 20);
                int most = random.nextInt(3) == 0 ? some(0, 200) : from(0, 40);
                same("sounding", tender.sounding(m, least, most), plain.sounding(m, least, most));
                break;
            }
            default:
                for (int what = 0; what <= 8; what++) {
                    same("lies(" + m + ", " + what + ")", tender.lies(m, what), plain.lies(m, what));
                }
                int what = some(0, 8);
                same("lies(" + m + ", " + what + ")", tender.lies(m, what), plain.lies(m, what));
                break;
        }
    }

    private void monthCall(int kind) {
        int m = someMark();
        switch (kind) {
            case 7: {
                int thickness = some(1, 1000);
                int least = random.nextInt(4) == 0 ? thickness : some(0, Math.max(1, Math.min(thickness, 1000)));
                int ground = some(0, 3);
                same("chain", tender.chain(m, thickness, least, ground),
                    plain.chain(m, thickness, least, ground));
                break;
            }
            case 8: {
                int ground = some(0, 3);
                int month = some(0, 11);
                int v = random.nextBoolean() ? some(0, 100) : from(0, 6);
                same("wear", tender.wear(ground, month, v), plain.wear(ground, month, v));
                break;
            }
            case 9:
                for (int what = 0; what <= 2; what++) {
                    same("chainOf(" + m + ", " + what + ")", tender.chainOf(m, what), plain.chainOf(m, what));
                }
                int what = some(0, 2);
                same("chainOf(" + m + ", " + what + ")", tender.chainOf(m, what), plain.chainOf(m, what));
                break;
            case 10: {
                int many = random.nextInt(3) == 0 ? some(0, 8) : 2 * from(1, 2);
                int steps = someSteps(many);
                same("light(" + m + ", " + many + ", " + steps + ")", tender.light(m, many, steps),
                    plain.light(m, many, steps));
                break;
            }
            case 11: {
                int v = random.nextBoolean() ? some(0, 5000) : from(0, 30);
                same("near(" + v + ")", tender.near(v), plain.near(v));
                break;
            }
            default: {
                int other = someMark();
                same("alike(" + m + ", " + other + ")", tender.alike(m, other), plain.alike(m, other));
                break;
            }
        }
    }

    private void warningCall(int kind) {
        int m = someMark();
        int w = some(0, Math.max(0, plain.about(2) - 1));
        switch (kind) {
            case 13: {
                int d = random.nextInt(6) == 0 ? some(0, Math.max(0, day)) : day + from(0, 40);
                same("day(" + d + ")", tender.day(d), plain.day(d));
                day = plain.about(1);
                break;
            }
            case 14: {
                int reason = some(1, 9);
                same("warn(" + m + ", " + reason + ")", tender.warn(m, reason), plain.warn(m, reason));
                break;
            }
            case 15:
                same("cancel(" + w + ")", tender.cancel(w), plain.cancel(w));
                break;
            case 16: {
                int d = some(0, day);
                int i = some(0, Math.max(0, plain.list(d) - 1));
                same("list(" + d + ")", tender.list(d), plain.list(d));
                same("listed(" + d + ", " + i + ")", tender.listed(d, i), plain.listed(d, i));
                break;
            }
            default: {
                int what = some(0, 3);
                same("warning(" + w + ", " + what + ")", tender.warning(w, what), plain.warning(w, what));
                break;
            }
        }
    }

    private void roundCall(int kind) {
        switch (kind) {
            case 18: {
                // Few jobs, as the plain telling goes every way round.
                int m = random.nextInt(8) == 0 ? someMark() : from(0, 4);
                int minutes = random.nextInt(3) == 0 ? some(0, 600) : from(0, 50);
                int load = some(0, 1000);
                int weight = m > 4 ? 0 : random.nextBoolean() ? some(0, 1000) : from(0, 3);
                same("job", tender.job(m, minutes, load, weight), plain.job(m, minutes, load, weight));
                break;
            }
            case 19: {
                int hour = some(0, 23);
                int tide = random.nextBoolean() ? some(-50, 50) : from(-5, 5);
                int wind = some(0, 12);
                same("weather", tender.weather(hour, tide, wind), plain.weather(hour, tide, wind));
                break;
            }
            case 20: {
                int pace = random.nextBoolean() ? some(0, 60) : from(0, 3);
                int draught = random.nextBoolean() ? some(0, 100) : from(0, 15);
                int wind = some(0, 12);
                int carries = random.nextInt(3) == 0 ? some(0, 10000) : from(0, 3000);
                same("ship", tender.ship(pace, draught, wind, carries),
                    plain.ship(pace, draught, wind, carries));
                break;
            }
            case 21: {
                int x = some(0, 39);
                int y = some(0, 39);
                int minute = random.nextBoolean() ? some(0, 1440) : from(0, 300);
                int end = some(0, 1440);
                same("at", tender.at(x, y, minute, end), plain.at(x, y, minute, end));
                break;
            }
            case 22:
                sameRound();
                break;
            default: {
                int what = some(0, 5);
                same("about(" + what + ")", tender.about(what), plain.about(what));
                break;
            }
        }
    }

    private void sameRound() {
        for (int what = 0; what <= 4; what++) {
            same("round(" + what + ")", tender.round(what), plain.round(what));
        }
        int many = Math.max(0, plain.round(2));
        for (int i = 0; i <= many; i++) {
            same("round(100 + " + i + ")", tender.round(100 + i), plain.round(100 + i));
            same("round(200 + " + i + ")", tender.round(200 + i), plain.round(200 + i));
        }
        int what = some(0, 210);
        same("round(" + what + ")", tender.round(what), plain.round(what));
    }

    /** A day with many jobs, windows and ties: few weights, few places, whole hours closed. */
    private void rounds(int many) {
        for (int i = 0; i < many; i++) {
            int x = from(0, 6) * 6;
            int y = from(0, 3) * 6;
            tender.mark(x, y, 0);
            plain.mark(x, y, 0);
            int depth = from(5, 8);
            tender.depth(x, y, x, y, depth);
            plain.depth(x, y, x, y, depth);
        }
        for (int hour = 0; hour < 24; hour++) {
            int tide = from(-2, 3);
            int wind = from(0, 6);
            tender.weather(hour, tide, wind);
            plain.weather(hour, tide, wind);
        }
        for (int turn = 0; turn < (many > 6 ? 1 : 3); turn++) {
            int pace = from(0, 6);
            int carries = from(2, 4 * many);
            tender.ship(pace, 7, 5, carries);
            plain.ship(pace, 7, 5, carries);
            int minute = from(0, 700);
            int end = Math.min(1440, minute + from(60, 900));
            int x = from(0, 39);
            tender.at(x, 3, minute, end);
            plain.at(x, 3, minute, end);
            for (int i = 0; i < many; i++) {
                int minutes = from(0, 4) * 20;
                int load = from(0, 4);
                int weight = from(1, 3);
                tender.job(i, minutes, load, weight);
                plain.job(i, minutes, load, weight);
            }
            sameRound();
        }
    }
}

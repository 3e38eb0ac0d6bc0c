import java.util.Arrays;

public final class BuoyTender {
    public static final int NONE = -1;

    private static final int SIDE = 40;
    private static final int MOST_DEPTH = 200;
    private static final int MOST_MARKS = 10;
    private static final int MOST_RADIUS = 20;
    private static final int MOST_WAY = 1000;

    private static final int LAST_DAY = 10000;
    private static final int DAYS_OF_MONTH = 30;
    private static final int MONTHS_OF_YEAR = 12;
    private static final int MONTHS_LOOKED_AT = 400;
    private static final int KINDS_OF_GROUND = 4;
    private static final int MOST_THICKNESS = 1000;
    private static final int MOST_WEAR = 100;

    private static final int MOST_STEPS = 8;
    private static final int MOST_NEARNESS = 5000;

    private static final int MOST_WARNINGS = 100;
    private static final int MOST_REASON = 9;

    private static final int LAST_MINUTE = 1440;
    private static final int HOURS = 24;
    private static final int MINUTES_OF_HOUR = 60;
    private static final int MOST_JOB_MINUTES = 600;
    private static final int MOST_LOAD = 1000;
    private static final int MOST_WEIGHT = 1000;
    private static final int MOST_TIDE = 50;
    private static final int MOST_WIND = 12;
    private static final int MOST_PACE = 60;
    private static final int MOST_DRAUGHT = 100;
    private static final int MOST_CARRIED = 10000;

    private static final int MARKS_OF_ROUND = 100;
    private static final int BEGINS_OF_ROUND = 200;

    private final int[] depths = new int[SIDE * SIDE];
    private final Mark[] marks = new Mark[MOST_MARKS];
    private final int[] wears = new int[KINDS_OF_GROUND * MONTHS_OF_YEAR];
    private final Warnings warnings = new Warnings();
    private final Ship vessel = new Ship();
    private final Survey survey = new Survey();
    private final Rhythm proposed = new Rhythm();
    // Its tables are most of what an object holds: an object that is asked for no round goes without them.
    private Planner planner;
    private int markCount;
    private int today;
    private int nearness;
    // A round is asked for piece by piece, so it is planned once and kept until something it hangs on changes.
    private boolean planned;

    public BuoyTender() {
    }

    public boolean depth(int x, int y, int p, int q, int d) {
        if (!isPlace(x, y) || !isPlace(p, q) || x > p || y > q || !within(d, 0, MOST_DEPTH)) {
            return false;
        }
        for (int row = y; row <= q; row++) {
            for (int column = x; column <= p; column++) {
                depths[row * SIDE + column] = d;
            }
        }
        planned = false;
        return true;
    }

    public int mark(int x, int y, int radius) {
        if (!isPlace(x, y) || !within(radius, 0, MOST_RADIUS) || markCount >= MOST_MARKS) {
            return NONE;
        }
        int number = markCount;
        marks[number] = new Mark(x, y, radius);
        markCount++;
        return number;
    }

    public boolean sight(int mark) {
        Mark m = known(mark);
        if (m == null) {
            return false;
        }
        m.sighting.begin();
        return true;
    }

    public boolean bearing(int mark, int from, int a, int b, int c, int d) {
        Mark m = known(mark);
        Mark f = known(from);
        if (m == null || f == null || mark == from || !isWay(a, b) || !isWay(c, d)) {
            return false;
        }
        m.sighting.tellBearing(f.x, f.y, a, b, c, d);
        return true;
    }

    public boolean sounding(int mark, int from, int to) {
        Mark m = known(mark);
        if (m == null || !within(from, 0, MOST_DEPTH) || !within(to, from, MOST_DEPTH)) {
            return false;
        }
        m.sighting.tellSounding(from, to);
        return true;
    }

    public int lies(int mark, int what) {
        Mark m = known(mark);
        if (m == null) {
            return NONE;
        }
        if (what == 6) {
            return m.x;
        }
        if (what == 7) {
            return m.y;
        }
        if (what == 8) {
            return m.radius;
        }
        if (!within(what, 0, 5)) {
            return NONE;
        }
        survey.take(m, depths);
        return surveyed(what, m.sighting.told);
    }

    public boolean day(int d) {
        if (!within(d, today, LAST_DAY)) {
            return false;
        }
        today = d;
        return true;
    }

    public boolean chain(int mark, int thickness, int least, int kind) {
        Mark m = known(mark);
        if (m == null || !within(thickness, 1, MOST_THICKNESS) || !within(least, 0, thickness)
                || !within(kind, 0, KINDS_OF_GROUND - 1)) {
            return false;
        }
        m.chain.lay(thickness, least, kind, thisMonth());
        return true;
    }

    public boolean wear(int kind, int month, int v) {
        if (!within(kind, 0, KINDS_OF_GROUND - 1) || !within(month, 0, MONTHS_OF_YEAR - 1)
                || !within(v, 0, MOST_WEAR)) {
            return false;
        }
        wears[kind * MONTHS_OF_YEAR + month] = v;
        return true;
    }

    public int chainOf(int mark, int what) {
        Mark m = known(mark);
        if (m == null || !m.chain.laid) {
            return NONE;
        }
        switch (what) {
            case 0:
                return Math.max(0, m.chain.leftBehind(thisMonth(), wears));
            case 1:
                return m.chain.lifeEnds(wears);
            case 2:
                return m.chain.since;
            default:
                return NONE;
        }
    }

    public boolean light(int mark, int many, int steps) {
        Mark m = known(mark);
        if (m == null) {
            return false;
        }
        if (many == 0) {
            m.rhythm.goDark();
            return true;
        }
        if (!proposed.read(many, steps) || clashesNearby(mark, m)) {
            return false;
        }
        m.rhythm.copyFrom(proposed);
        return true;
    }

    public boolean near(int v) {
        if (!within(v, 0, MOST_NEARNESS) || clashesWithin(v)) {
            return false;
        }
        nearness = v;
        return true;
    }

    public int alike(int a, int b) {
        Mark one = known(a);
        Mark other = known(b);
        if (one == null || other == null || a == b || !one.rhythm.isLit() || !other.rhythm.isLit()) {
            return NONE;
        }
        return one.rhythm.matches(other.rhythm) ? 1 : 0;
    }

    public int warn(int mark, int kind) {
        if (known(mark) == null || !within(kind, 1, MOST_REASON)) {
            return NONE;
        }
        return warnings.tell(mark, kind, today);
    }

    public boolean cancel(int w) {
        return warnings.end(w, today);
    }

    public int list(int d) {
        return within(d, 0, today) ? warnings.countOn(d) : NONE;
    }

    public int listed(int d, int i) {
        return within(d, 0, today) ? warnings.numberOn(d, i) : NONE;
    }

    public int warning(int w, int what) {
        if (!warnings.has(w)) {
            return NONE;
        }
        switch (what) {
            case 0:
                return warnings.markOf[w];
            case 1:
                return warnings.reasonOf[w];
            case 2:
                return warnings.toldOn[w];
            case 3:
                return warnings.cancelledOn[w];
            default:
                return NONE;
        }
    }

    public boolean job(int mark, int minutes, int load, int weight) {
        Mark m = known(mark);
        if (m == null || !within(minutes, 0, MOST_JOB_MINUTES) || !within(load, 0, MOST_LOAD)
                || !within(weight, 0, MOST_WEIGHT)) {
            return false;
        }
        m.minutes = minutes;
        m.load = load;
        m.weight = weight;
        planned = false;
        return true;
    }

    public boolean weather(int hour, int tide, int wind) {
        if (!within(hour, 0, HOURS - 1) || !within(tide, -MOST_TIDE, MOST_TIDE) || !within(wind, 0, MOST_WIND)) {
            return false;
        }
        vessel.tides[hour] = tide;
        vessel.winds[hour] = wind;
        planned = false;
        return true;
    }

    public boolean ship(int pace, int draught, int wind, int carries) {
        if (!within(pace, 0, MOST_PACE) || !within(draught, 0, MOST_DRAUGHT) || !within(wind, 0, MOST_WIND)
                || !within(carries, 0, MOST_CARRIED)) {
            return false;
        }
        vessel.pace = pace;
        vessel.draught = draught;
        vessel.mostWind = wind;
        vessel.carried = carries;
        planned = false;
        return true;
    }

    public boolean at(int x, int y, int minute, int end) {
        if (!isPlace(x, y) || !within(minute, 0, LAST_MINUTE) || !within(end, minute, LAST_MINUTE)) {
            return false;
        }
        vessel.x = x;
        vessel.y = y;
        vessel.minute = minute;
        vessel.end = end;
        planned = false;
        return true;
    }

    public int round(int what) {
        if (planner == null) {
            planner = new Planner();
        }
        if (!planned) {
            planner.plan(marks, depths, vessel);
            planned = true;
        }
        switch (what) {
            case 0:
                return planner.bestWeight;
            case 1:
                return planner.bestBack;
            case 2:
                return planner.length;
            case 3:
                return planner.loadDone();
            default:
                return planner.step(what);
        }
    }

    public int about(int what) {
        switch (what) {
            case 0:
                return markCount;
            case 1:
                return today;
            case 2:
                return warnings.count;
            case 3:
                return nearness;
            case 4:
                return jobCount();
            case 5:
                return vessel.end;
            default:
                return NONE;
        }
    }

    private static boolean within(int v, int least, int most) {
        return v >= least && v <= most;
    }

    private static boolean isPlace(int x, int y) {
        return within(x, 0, SIDE - 1) && within(y, 0, SIDE - 1);
    }

    private static boolean isWay(int a, int b) {
        return within(a, -MOST_WAY, MOST_WAY) && within(b, -MOST_WAY, MOST_WAY) && (a != 0 || b != 0);
    }

    private static int squareBetween(int x, int y, int u, int v) {
        return (x - u) * (x - u) + (y - v) * (y - v);
    }

    private Mark known(int number) {
        return number >= 0 && number < markCount && number < marks.length ? marks[number] : null;
    }

    private int thisMonth() {
        return today / DAYS_OF_MONTH;
    }

    private int surveyed(int what, boolean told) {
        switch (what) {
            case 0:
                return told ? survey.how() : 0;
            case 1:
                return survey.left;
            case 2:
                return survey.leastX;
            case 3:
                return survey.leastY;
            case 4:
                return survey.mostX;
            case 5:
                return survey.mostY;
            default:
                return NONE;
        }
    }

    private boolean clashesNearby(int mark, Mark m) {
        for (int i = 0; i < markCount; i++) {
            Mark other = known(i);
            if (i != mark && other != null && m.isNear(other, nearness) && proposed.matches(other.rhythm)) {
                return true;
            }
        }
        return false;
    }

    private boolean clashesWithin(int reach) {
        for (int i = 0; i < markCount; i++) {
            for (int k = i + 1; k < markCount; k++) {
                Mark one = known(i);
                Mark other = known(k);
                if (one != null && other != null && one.isNear(other, reach) && one.rhythm.matches(other.rhythm)) {
                    return true;
                }
            }
        }
        return false;
    }

    private int jobCount() {
        int many = 0;
        for (int i = 0; i < markCount; i++) {
            Mark m = known(i);
            if (m != null && m.weight > 0) {
                many++;
            }
        }
        return many;
    }

    private static final class Mark {
        private final int x;
        private final int y;
        private final int radius;
        private final Sighting sighting = new Sighting();
        private final Chain chain = new Chain();
        private final Rhythm rhythm = new Rhythm();
        private int minutes;
        private int load;
        // A weight of 0 says that the mark has no job.
        private int weight;

        private Mark(int x, int y, int radius) {
            this.x = x;
            this.y = y;
            this.radius = radius;
        }

        private boolean isNear(Mark other, int reach) {
            return squareBetween(x, y, other.x, other.y) <= reach;
        }
    }

    private static final class Sighting {
        // Bit x of row y: a bearing rules the place out. Stations never move, so this can be settled when it is told.
        private final long[] ruledOut = new long[SIDE];
        // Depths may be charted anew behind a sounding: only its numbers are kept, and places are judged when asked.
        private int shallowest;
        private int deepest = MOST_DEPTH;
        private boolean told;

        private Sighting() {
        }

        private void begin() {
            Arrays.fill(ruledOut, 0L);
            shallowest = 0;
            deepest = MOST_DEPTH;
            told = false;
        }

        private void tellBearing(int u, int v, int a, int b, int c, int d) {
            for (int y = 0; y < SIDE; y++) {
                long out = ruledOut[y];
                for (int x = 0; x < SIDE; x++) {
                    boolean agrees = a * (y - v) - b * (x - u) >= 0 && c * (y - v) - d * (x - u) <= 0;
                    if (!agrees) {
                        out |= 1L << x;
                    }
                }
                ruledOut[y] = out;
            }
            told = true;
        }

        private void tellSounding(int from, int to) {
            shallowest = Math.max(shallowest, from);
            deepest = Math.min(deepest, to);
            told = true;
        }
    }

    /** What one look over the chart finds of the places that a sighting leaves. */
    private static final class Survey {
        private int left;
        private int inRadius;
        private int leastX;
        private int leastY;
        private int mostX;
        private int mostY;

        private Survey() {
        }

        private void take(Mark m, int[] depths) {
            left = 0;
            inRadius = 0;
            leastX = NONE;
            leastY = NONE;
            mostX = NONE;
            mostY = NONE;
            Sighting s = m.sighting;
            for (int place = 0; place < SIDE * SIDE && place < depths.length; place++) {
                int x = place % SIDE;
                int y = place / SIDE;
                int depth = depths[place];
                if ((s.ruledOut[y] >> x & 1L) == 0L && depth >= s.shallowest && depth <= s.deepest) {
                    count(m, x, y);
                }
            }
        }

        private void count(Mark m, int x, int y) {
            leastX = left == 0 ? x : Math.min(leastX, x);
            leastY = left == 0 ? y : Math.min(leastY, y);
            mostX = Math.max(mostX, x);
            mostY = Math.max(mostY, y);
            left++;
            if (squareBetween(x, y, m.x, m.y) <= m.radius * m.radius) {
                inRadius++;
            }
        }

        private int how() {
            if (left == 0) {
                return 3;
            }
            if (inRadius == left) {
                return 1;
            }
            return inRadius == 0 ? 2 : 0;
        }
    }

    private static final class Chain {
        private boolean laid;
        private int thickness;
        private int least;
        private int kind;
        private int since;

        private Chain() {
        }

        private void lay(int newThickness, int newLeast, int newKind, int month) {
            laid = true;
            thickness = newThickness;
            least = newLeast;
            kind = newKind;
            since = month;
        }

        private int wornIn(int month, int[] wears) {
            int index = kind * MONTHS_OF_YEAR + month % MONTHS_OF_YEAR;
            return index >= 0 && index < wears.length ? wears[index] : 0;
        }

        // Goes below 0 where more has worn than there was: only the answer of chainOf stops at 0, LIFE does not.
        private int leftBehind(int month, int[] wears) {
            int left = thickness;
            for (int i = since; i <= month; i++) {
                left -= wornIn(i, wears);
            }
            return left;
        }

        private int lifeEnds(int[] wears) {
            int left = thickness;
            for (int i = 0; i < MONTHS_LOOKED_AT; i++) {
                left -= wornIn(since + i, wears);
                if (left < least) {
                    return since + i;
                }
            }
            return NONE;
        }
    }

    private static final class Rhythm {
        private final int[] steps = new int[MOST_STEPS];
        private int many;

        private Rhythm() {
        }

        private boolean isLit() {
            return many > 0;
        }

        private void goDark() {
            many = 0;
        }

        private boolean read(int newMany, int digits) {
            if (!within(newMany, 1, MOST_STEPS) || newMany % 2 != 0) {
                return false;
            }
            int rest = digits;
            for (int i = 0; i < newMany; i++) {
                int step = rest % 10;
                if (step <= 0) {
                    return false;
                }
                steps[i] = step;
                rest /= 10;
            }
            many = newMany;
            return rest == 0;
        }

        private void copyFrom(Rhythm other) {
            System.arraycopy(other.steps, 0, steps, 0, MOST_STEPS);
            many = other.many;
        }

        // A turn by an odd number of steps would change light for dark, so only even turns count.
        private boolean matches(Rhythm other) {
            if (many != other.many) {
                return false;
            }
            for (int turn = 0; turn < many; turn += 2) {
                if (matchesTurned(other, turn)) {
                    return true;
                }
            }
            return false;
        }

        private boolean matchesTurned(Rhythm other, int turn) {
            for (int i = 0; i < many; i++) {
                if (steps[(i + turn) % many] != other.steps[i]) {
                    return false;
                }
            }
            return true;
        }
    }

    private static final class Warnings {
        private final int[] markOf = new int[MOST_WARNINGS];
        private final int[] reasonOf = new int[MOST_WARNINGS];
        private final int[] toldOn = new int[MOST_WARNINGS];
        private final int[] cancelledOn = new int[MOST_WARNINGS];
        private int count;

        private Warnings() {
        }

        private boolean has(int w) {
            return w >= 0 && w < count;
        }

        private int tell(int mark, int reason, int today) {
            if (count >= MOST_WARNINGS || isOpen(mark, reason)) {
                return NONE;
            }
            int number = count;
            markOf[number] = mark;
            reasonOf[number] = reason;
            toldOn[number] = today;
            cancelledOn[number] = NONE;
            count++;
            return number;
        }

        private boolean isOpen(int mark, int reason) {
            for (int w = 0; w < count; w++) {
                if (markOf[w] == mark && reasonOf[w] == reason && cancelledOn[w] == NONE) {
                    return true;
                }
            }
            return false;
        }

        private boolean end(int w, int today) {
            if (!has(w) || cancelledOn[w] != NONE) {
                return false;
            }
            cancelledOn[w] = today;
            return true;
        }

        private boolean isOutOn(int w, int d) {
            return toldOn[w] <= d && (cancelledOn[w] == NONE || d < cancelledOn[w]);
        }

        private int countOn(int d) {
            int many = 0;
            for (int w = 0; w < count; w++) {
                if (isOutOn(w, d)) {
                    many++;
                }
            }
            return many;
        }

        private int numberOn(int d, int i) {
            int ahead = 0;
            for (int w = 0; w < count; w++) {
                if (isOutOn(w, d)) {
                    if (ahead == i) {
                        return w;
                    }
                    ahead++;
                }
            }
            return NONE;
        }
    }

    private static final class Ship {
        private final int[] tides = new int[HOURS];
        private final int[] winds = new int[HOURS];
        private int x;
        private int y;
        private int minute;
        private int end = LAST_MINUTE;
        private int pace = 1;
        private int draught;
        private int mostWind = MOST_WIND;
        private int carried;

        private Ship() {
        }

        private boolean mayBegin(int depth, int hour) {
            return depth + tides[hour] >= draught && winds[hour] <= mostWind;
        }
    }

    /**
     * Finds THE ROUND. A later coming never makes an earlier beginning, so of each set of jobs and each last job the
     * earliest end is all that counts for the most weight and the earliest back; and for the first order of marks, the
     * latest minute at which a job may end so that the rest can still be done and the ship be back at that minute.
     */
    private static final class Planner {
        private static final int NEVER = 1000000;
        private static final int SETS = 1 << MOST_MARKS;
        // The ship's own place stands behind the places of the jobs.
        private static final int HOME = MOST_MARKS;
        private static final int STOPS = MOST_MARKS + 1;

        private final int[] numbers = new int[MOST_MARKS];
        private final int[] minutes = new int[MOST_MARKS];
        private final int[] loads = new int[MOST_MARKS];
        private final int[] weights = new int[MOST_MARKS];
        private final int[] ways = new int[STOPS * STOPS];
        // Of each job and hour: the first hour from it on, and the last one up to it, in which the job may begin.
        private final int[] opensIn = new int[MOST_MARKS * HOURS];
        private final int[] openedIn = new int[MOST_MARKS * HOURS];
        // Of each set of jobs and each job: first the earliest ends, then, when those are used up, the latest ones.
        private final int[] ends = new int[SETS * MOST_MARKS];
        private final int[] backs = new int[SETS];
        private final int[] tried = new int[MOST_MARKS];
        private final int[] order = new int[MOST_MARKS];
        private final int[] begins = new int[MOST_MARKS];
        private int count;
        private int length;
        private int bestWeight;
        private int bestBack;

        private Planner() {
        }

        private void plan(Mark[] marks, int[] depths, Ship ship) {
            gather(marks, depths, ship);
            measure(marks, ship);
            findEarliestEnds(ship);
            chooseBest();
            findLatestEnds();
            chooseOrder(ship);
            timeOrder(ship);
        }

        private int loadDone() {
            int sum = 0;
            for (int i = 0; i < length; i++) {
                sum += loads[order[i]];
            }
            return sum;
        }

        private int step(int what) {
            if (what >= MARKS_OF_ROUND && what < MARKS_OF_ROUND + length) {
                return numbers[order[what - MARKS_OF_ROUND]];
            }
            if (what >= BEGINS_OF_ROUND && what < BEGINS_OF_ROUND + length) {
                return begins[what - BEGINS_OF_ROUND];
            }
            return NONE;
        }

        private void gather(Mark[] marks, int[] depths, Ship ship) {
            count = 0;
            for (int i = 0; i < MOST_MARKS && i < marks.length; i++) {
                Mark m = marks[i];
                if (m != null && m.weight > 0) {
                    numbers[count] = i;
                    minutes[count] = m.minutes;
                    loads[count] = m.load;
                    weights[count] = m.weight;
                    int place = m.y * SIDE + m.x;
                    openHours(count, place >= 0 && place < depths.length ? depths[place] : 0, ship);
                    count++;
                }
            }
        }

        private void openHours(int job, int depth, Ship ship) {
            int opened = NONE;
            for (int hour = 0; hour < HOURS; hour++) {
                opened = ship.mayBegin(depth, hour) ? hour : opened;
                openedIn[job * HOURS + hour] = opened;
            }
            int opens = NONE;
            for (int hour = HOURS - 1; hour >= 0; hour--) {
                opens = ship.mayBegin(depth, hour) ? hour : opens;
                opensIn[job * HOURS + hour] = opens;
            }
        }

        private void measure(Mark[] marks, Ship ship) {
            for (int i = 0; i < count; i++) {
                Mark one = markOfJob(marks, i);
                for (int k = 0; k < count; k++) {
                    Mark other = markOfJob(marks, k);
                    if (one != null && other != null) {
                        ways[i * STOPS + k] = way(one, other.x, other.y, ship);
                    }
                }
                if (one != null) {
                    ways[i * STOPS + HOME] = way(one, ship.x, ship.y, ship);
                    ways[HOME * STOPS + i] = ways[i * STOPS + HOME];
                }
            }
        }

        private Mark markOfJob(Mark[] marks, int job) {
            int number = numbers[job];
            return number >= 0 && number < marks.length ? marks[number] : null;
        }

        private static int way(Mark m, int x, int y, Ship ship) {
            return Math.max(Math.abs(m.x - x), Math.abs(m.y - y)) * ship.pace;
        }

        private static boolean isIn(int job, int set) {
            return (set >> job & 1) == 1;
        }

        private static int without(int job, int set) {
            return set & ~(1 << job);
        }

        private int sumOver(int set, int[] of) {
            int sum = 0;
            for (int i = 0; i < count && i < of.length; i++) {
                sum += isIn(i, set) ? of[i] : 0;
            }
            return sum;
        }

        /** The first minute not ahead of a coming at which a job may begin: NEVER if the day has none. */
        private int beginFrom(int job, int coming) {
            if (coming < 0 || coming >= LAST_MINUTE) {
                return NEVER;
            }
            int hour = coming / MINUTES_OF_HOUR;
            int opens = opensIn[job * HOURS + hour];
            if (opens == NONE) {
                return NEVER;
            }
            return opens == hour ? coming : opens * MINUTES_OF_HOUR;
        }

        /** The last minute up to a given one at which a job may begin: -NEVER if the day has none. */
        private int beginUpTo(int job, int minute) {
            if (minute < 0) {
                return -NEVER;
            }
            int latest = Math.min(minute, LAST_MINUTE - 1);
            int hour = latest / MINUTES_OF_HOUR;
            int opened = openedIn[job * HOURS + hour];
            if (opened == NONE) {
                return -NEVER;
            }
            return opened == hour ? latest : opened * MINUTES_OF_HOUR + MINUTES_OF_HOUR - 1;
        }

        private void findEarliestEnds(Ship ship) {
            backs[0] = ship.minute;
            for (int set = 1; set < 1 << count; set++) {
                int back = NEVER;
                boolean fits = sumOver(set, loads) <= ship.carried;
                for (int last = 0; last < count; last++) {
                    int end = fits && isIn(last, set) ? earliestEnd(set, last, ship) : NEVER;
                    ends[set * MOST_MARKS + last] = end;
                    back = Math.min(back, end + ways[last * STOPS + HOME]);
                }
                backs[set] = back <= ship.end ? back : NEVER;
            }
        }

        private int earliestEnd(int set, int last, Ship ship) {
            int before = without(last, set);
            int coming = before == 0 ? ship.minute + ways[HOME * STOPS + last] : NEVER;
            for (int i = 0; i < count; i++) {
                if (isIn(i, before)) {
                    coming = Math.min(coming, ends[before * MOST_MARKS + i] + ways[i * STOPS + last]);
                }
            }
            int end = beginFrom(last, coming) + minutes[last];
            return end <= ship.end ? end : NEVER;
        }

        private void chooseBest() {
            bestWeight = 0;
            bestBack = backs[0];
            for (int set = 1; set < 1 << count; set++) {
                if (backs[set] != NEVER) {
                    int weight = sumOver(set, weights);
                    if (weight > bestWeight || weight == bestWeight && backs[set] < bestBack) {
                        bestWeight = weight;
                        bestBack = backs[set];
                    }
                }
            }
        }

        private void findLatestEnds() {
            for (int rest = 0; rest < 1 << count; rest++) {
                for (int here = 0; here < count; here++) {
                    ends[rest * MOST_MARKS + here] = isIn(here, rest) ? -NEVER : latestEnd(rest, here);
                }
            }
        }

        private int latestEnd(int rest, int here) {
            if (rest == 0) {
                return bestBack - ways[here * STOPS + HOME];
            }
            int latest = -NEVER;
            for (int next = 0; next < count; next++) {
                if (isIn(next, rest)) {
                    int begin = beginUpTo(next, ends[without(next, rest) * MOST_MARKS + next] - minutes[next]);
                    latest = Math.max(latest, begin - ways[here * STOPS + next]);
                }
            }
            return latest;
        }

        private void chooseOrder(Ship ship) {
            length = NONE;
            for (int set = 0; set < 1 << count; set++) {
                if (backs[set] == bestBack && sumOver(set, weights) == bestWeight) {
                    int many = tryFirstOrder(set, ship);
                    if (length == NONE || isTriedFirst(many)) {
                        System.arraycopy(tried, 0, order, 0, MOST_MARKS);
                        length = many;
                    }
                }
            }
        }

        private int tryFirstOrder(int set, Ship ship) {
            int many = 0;
            int rest = set;
            int here = HOME;
            int minute = ship.minute;
            for (int i = 0; i < count && rest != 0; i++) {
                int next = lowestNext(rest, here, minute);
                if (next == NONE) {
                    return many;
                }
                tried[many] = next;
                many++;
                minute = beginFrom(next, minute + ways[here * STOPS + next]) + minutes[next];
                rest = without(next, rest);
                here = next;
            }
            return many;
        }

        private int lowestNext(int rest, int here, int minute) {
            for (int next = 0; next < count; next++) {
                if (isIn(next, rest)) {
                    int end = beginFrom(next, minute + ways[here * STOPS + next]) + minutes[next];
                    if (end <= ends[without(next, rest) * MOST_MARKS + next]) {
                        return next;
                    }
                }
            }
            return NONE;
        }

        private boolean isTriedFirst(int many) {
            for (int i = 0; i < many && i < length; i++) {
                if (tried[i] != order[i]) {
                    return tried[i] < order[i];
                }
            }
            return many < length;
        }

        private void timeOrder(Ship ship) {
            int here = HOME;
            int minute = ship.minute;
            for (int i = 0; i < length; i++) {
                int next = order[i];
                begins[i] = beginFrom(next, minute + ways[here * STOPS + next]);
                minute = begins[i] + minutes[next];
                here = next;
            }
        }
    }
}

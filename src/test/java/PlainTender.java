import java.util.ArrayList;
import java.util.Arrays;
import java.util.HashMap;
import java.util.List;
import java.util.Map;
import java.util.TreeMap;

/** The document told again as plainly as can be, without a thought for time or room: the other side of AgreementTest. */
final class PlainTender {
    private final int[][] depth = new int[40][40];
    private final List<int[]> marks = new ArrayList<>();
    private final Map<Integer, List<int[]>> told = new HashMap<>();
    private final Map<Integer, int[]> chains = new HashMap<>();
    private final Map<Integer, List<Integer>> lights = new HashMap<>();
    private final TreeMap<Integer, int[]> jobs = new TreeMap<>();
    private final List<int[]> warnings = new ArrayList<>();
    private final int[][] wear = new int[4][12];
    private final int[][] weather = new int[24][2];
    private int[] ship = {1, 0, 12, 0};
    private int[] at = {0, 0, 0, 1440};
    private int day;
    private int nearness;

    private static boolean in(int v, int least, int most) {
        return least <= v && v <= most;
    }

    private boolean isMark(int mark) {
        return in(mark, 0, marks.size() - 1);
    }

    boolean depth(int x, int y, int p, int q, int d) {
        if (!in(x, 0, 39) || !in(y, 0, 39) || !in(p, x, 39) || !in(q, y, 39) || !in(d, 0, 200)) {
            return false;
        }
        for (int i = x; i <= p; i++) {
            Arrays.fill(depth[i], y, q + 1, d);
        }
        return true;
    }

    int mark(int x, int y, int radius) {
        if (!in(x, 0, 39) || !in(y, 0, 39) || !in(radius, 0, 20) || marks.size() == 10) {
            return -1;
        }
        marks.add(new int[] {x, y, radius});
        told.put(marks.size() - 1, new ArrayList<>());
        return marks.size() - 1;
    }

    boolean sight(int mark) {
        if (!isMark(mark)) {
            return false;
        }
        told.get(mark).clear();
        return true;
    }

    boolean bearing(int mark, int from, int a, int b, int c, int d) {
        if (!isMark(mark) || !isMark(from) || mark == from) {
            return false;
        }
        for (int v : new int[] {a, b, c, d}) {
            if (!in(v, -1000, 1000)) {
                return false;
            }
        }
        if (a == 0 && b == 0 || c == 0 && d == 0) {
            return false;
        }
        told.get(mark).add(new int[] {marks.get(from)[0], marks.get(from)[1], a, b, c, d});
        return true;
    }

    boolean sounding(int mark, int from, int to) {
        if (!isMark(mark) || !in(from, 0, 200) || !in(to, 0, 200) || from > to) {
            return false;
        }
        told.get(mark).add(new int[] {from, to});
        return true;
    }

    private boolean agrees(int x, int y, int[] word) {
        if (word.length == 2) {
            return in(depth[x][y], word[0], word[1]);
        }
        int dx = x - word[0];
        int dy = y - word[1];
        return word[2] * dy - word[3] * dx >= 0 && word[4] * dy - word[5] * dx <= 0;
    }

    private List<int[]> places(int mark) {
        List<int[]> left = new ArrayList<>();
        for (int x = 0; x < 40; x++) {
            for (int y = 0; y < 40; y++) {
                boolean all = true;
                for (int[] word : told.get(mark)) {
                    all = all && agrees(x, y, word);
                }
                if (all) {
                    left.add(new int[] {x, y});
                }
            }
        }
        return left;
    }

    int lies(int mark, int what) {
        if (!isMark(mark) || !in(what, 0, 8)) {
            return -1;
        }
        int[] m = marks.get(mark);
        if (what >= 6) {
            return m[what - 6];
        }
        List<int[]> left = places(mark);
        if (what == 1) {
            return left.size();
        }
        if (what == 0) {
            if (told.get(mark).isEmpty()) {
                return 0;
            }
            long near = left.stream().filter(p -> square(p, m) <= m[2] * m[2]).count();
            return left.isEmpty() ? 3 : near == left.size() ? 1 : near == 0 ? 2 : 0;
        }
        int axis = what % 2;
        return what <= 3 ? left.stream().mapToInt(p -> p[axis]).min().orElse(-1)
            : left.stream().mapToInt(p -> p[axis]).max().orElse(-1);
    }

    private static int square(int[] p, int[] q) {
        return (p[0] - q[0]) * (p[0] - q[0]) + (p[1] - q[1]) * (p[1] - q[1]);
    }

    boolean day(int d) {
        if (!in(d, 0, 10000) || d < day) {
            return false;
        }
        day = d;
        return true;
    }

    boolean chain(int mark, int thickness, int least, int kind) {
        if (!isMark(mark) || !in(thickness, 1, 1000) || !in(least, 0, thickness) || !in(kind, 0, 3)) {
            return false;
        }
        chains.put(mark, new int[] {thickness, least, kind, day / 30});
        return true;
    }

    boolean wear(int kind, int month, int v) {
        if (!in(kind, 0, 3) || !in(month, 0, 11) || !in(v, 0, 100)) {
            return false;
        }
        wear[kind][month] = v;
        return true;
    }

    private int leftAtEndOf(int[] chain, int month) {
        int left = chain[0];
        for (int i = chain[3]; i <= month; i++) {
            left -= wear[chain[2]][i % 12];
        }
        return left;
    }

    int chainOf(int mark, int what) {
        int[] c = chains.get(mark);
        if (c == null || !in(what, 0, 2)) {
            return -1;
        }
        if (what == 0) {
            return Math.max(0, leftAtEndOf(c, day / 30));
        }
        if (what == 2) {
            return c[3];
        }
        for (int month = c[3]; month < c[3] + 400; month++) {
            if (leftAtEndOf(c, month) < c[1]) {
                return month;
            }
        }
        return -1;
    }

    private static boolean sameLight(List<Integer> one, List<Integer> other) {
        if (one == null || other == null || one.size() != other.size()) {
            return false;
        }
        List<Integer> turned = new ArrayList<>(one);
        for (int i = 0; i < one.size(); i++) {
            if (turned.equals(other)) {
                return true;
            }
            turned.add(turned.remove(0));
            turned.add(turned.remove(0));
        }
        return false;
    }

    private boolean clash(Map<Integer, List<Integer>> lit, int reach) {
        for (int i : lit.keySet()) {
            for (int k : lit.keySet()) {
                if (i < k && square(marks.get(i), marks.get(k)) <= reach && sameLight(lit.get(i), lit.get(k))) {
                    return true;
                }
            }
        }
        return false;
    }

    boolean light(int mark, int many, int steps) {
        if (!isMark(mark)) {
            return false;
        }
        if (many == 0) {
            lights.remove(mark);
            return true;
        }
        String digits = Integer.toString(steps);
        if (!in(many, 1, 8) || many % 2 == 1 || steps < 0 || digits.length() != many || digits.indexOf('0') >= 0) {
            return false;
        }
        List<Integer> rhythm = new ArrayList<>();
        for (int i = many - 1; i >= 0; i--) {
            rhythm.add(digits.charAt(i) - '0');
        }
        Map<Integer, List<Integer>> lit = new HashMap<>(lights);
        lit.put(mark, rhythm);
        if (clash(lit, nearness)) {
            return false;
        }
        lights.put(mark, rhythm);
        return true;
    }

    boolean near(int v) {
        if (!in(v, 0, 5000) || clash(lights, v)) {
            return false;
        }
        nearness = v;
        return true;
    }

    int alike(int a, int b) {
        if (a == b || !lights.containsKey(a) || !lights.containsKey(b)) {
            return -1;
        }
        return sameLight(lights.get(a), lights.get(b)) ? 1 : 0;
    }

    int warn(int mark, int kind) {
        if (!isMark(mark) || !in(kind, 1, 9) || warnings.size() == 100) {
            return -1;
        }
        for (int[] w : warnings) {
            if (w[0] == mark && w[1] == kind && w[3] == -1) {
                return -1;
            }
        }
        warnings.add(new int[] {mark, kind, day, -1});
        return warnings.size() - 1;
    }

    boolean cancel(int w) {
        if (!in(w, 0, warnings.size() - 1) || warnings.get(w)[3] != -1) {
            return false;
        }
        warnings.get(w)[3] = day;
        return true;
    }

    private List<Integer> out(int d) {
        List<Integer> numbers = new ArrayList<>();
        for (int i = 0; i < warnings.size(); i++) {
            int[] w = warnings.get(i);
            int last = w[3] == -1 ? 10000 : w[3] - 1;
            if (in(d, w[2], last)) {
                numbers.add(i);
            }
        }
        return numbers;
    }

    int list(int d) {
        return in(d, 0, day) ? out(d).size() : -1;
    }

    int listed(int d, int i) {
        return in(d, 0, day) && in(i, 0, out(d).size() - 1) ? out(d).get(i) : -1;
    }

    int warning(int w, int what) {
        return in(w, 0, warnings.size() - 1) && in(what, 0, 3) ? warnings.get(w)[what] : -1;
    }

    boolean job(int mark, int minutes, int load, int weight) {
        if (!isMark(mark) || !in(minutes, 0, 600) || !in(load, 0, 1000) || !in(weight, 0, 1000)) {
            return false;
        }
        jobs.remove(mark);
        if (weight > 0) {
            jobs.put(mark, new int[] {minutes, load, weight});
        }
        return true;
    }

    boolean weather(int hour, int tide, int wind) {
        if (!in(hour, 0, 23) || !in(tide, -50, 50) || !in(wind, 0, 12)) {
            return false;
        }
        weather[hour] = new int[] {tide, wind};
        return true;
    }

    boolean ship(int pace, int draught, int wind, int carries) {
        if (!in(pace, 0, 60) || !in(draught, 0, 100) || !in(wind, 0, 12) || !in(carries, 0, 10000)) {
            return false;
        }
        ship = new int[] {pace, draught, wind, carries};
        return true;
    }

    boolean at(int x, int y, int minute, int end) {
        if (!in(x, 0, 39) || !in(y, 0, 39) || !in(minute, 0, 1440) || !in(end, 0, 1440) || end < minute) {
            return false;
        }
        at = new int[] {x, y, minute, end};
        return true;
    }

    private int way(int[] p, int[] q) {
        return Math.max(Math.abs(p[0] - q[0]), Math.abs(p[1] - q[1])) * ship[0];
    }

    private int begin(int mark, int coming) {
        int[] m = marks.get(mark);
        for (int minute = coming; minute < 1440; minute++) {
            int[] w = weather[minute / 60];
            if (depth[m[0]][m[1]] + w[0] >= ship[1] && w[1] <= ship[2]) {
                return minute;
            }
        }
        return -1;
    }

    /** One way round, as far as it has been gone. */
    private static final class Path {
        List<Integer> marks = new ArrayList<>();
        List<Integer> begins = new ArrayList<>();
        int weight;
        int load;
        int back;

        boolean betterThan(Path other) {
            if (weight != other.weight) {
                return weight > other.weight;
            }
            if (back != other.back) {
                return back < other.back;
            }
            for (int i = 0; i < Math.min(marks.size(), other.marks.size()); i++) {
                if (!marks.get(i).equals(other.marks.get(i))) {
                    return marks.get(i) < other.marks.get(i);
                }
            }
            return marks.size() < other.marks.size();
        }
    }

    private Path best(Path path, int[] here, int minute) {
        Path best = null;
        if (path.load > ship[3]) {
            return null;
        }
        path.back = minute + way(here, at);
        if (path.back <= at[3]) {
            best = path;
        }
        for (int mark : jobs.keySet()) {
            int begin = path.marks.contains(mark) ? -1 : begin(mark, minute + way(here, marks.get(mark)));
            if (begin >= 0) {
                int[] job = jobs.get(mark);
                Path on = new Path();
                on.marks.addAll(path.marks);
                on.marks.add(mark);
                on.begins.addAll(path.begins);
                on.begins.add(begin);
                on.weight = path.weight + job[2];
                on.load = path.load + job[1];
                Path found = best(on, marks.get(mark), begin + job[0]);
                if (found != null && (best == null || found.betterThan(best))) {
                    best = found;
                }
            }
        }
        return best;
    }

    private Path theRound() {
        return best(new Path(), at, at[2]);
    }

    int round(int what) {
        Path p = theRound();
        int[] first = {p.weight, p.back, p.marks.size(), p.load};
        if (in(what, 0, 3)) {
            return first[what];
        }
        if (in(what, 100, 99 + p.marks.size())) {
            return p.marks.get(what - 100);
        }
        return in(what, 200, 199 + p.marks.size()) ? p.begins.get(what - 200) : -1;
    }

    int about(int what) {
        int[] all = {marks.size(), day, warnings.size(), nearness, jobs.size(), at[3]};
        return in(what, 0, 5) ? all[what] : -1;
    }
}

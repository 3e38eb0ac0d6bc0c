/** Terms IV and promises 20 to 24: each sentence that names a boundary case has a test of its own. */
public final class RoundEdgeTest {
    public static void main(String[] args) {
        jobMinutes();
        jobLoad();
        jobWeight();
        jobOfWeightZero();
        jobTakenAway();
        jobInPlaceOfOne();
        oneJobOfEachMark();
        weatherHours();
        weatherTide();
        weatherWind();
        shipPace();
        shipDraught();
        shipMostWind();
        shipCarries();
        atPlaces();
        atMinutes();
        atEndAheadOfTheMinute();
        greaterWay();
        begunAtTheMinuteOfComing();
        begunAtTheFirstMinuteOfAnHour();
        depthAndTideNotBelowDraught();
        windNotAboveMostWind();
        onlyTheBeginningCounts();
        eachHour();
        lastMinuteOfTheDay();
        noHour24();
        doneMinutesLater();
        comesBackToWhereItBegan();
        loadsNotAboveWhatItCarries();
        backAtTheEnd();
        endAtTheMinute();
        mostWeight();
        thenBackEarliest();
        thenTheLowerFirst();
        noRound();
        allTenJobs();
        roundBounds();
        Checks.finish();
    }

    /** A mark at (5, 5), the ship upon it, and a JOB of WEIGHT 1. */
    private static BuoyTender withJob(int minutes, int load) {
        BuoyTender t = Rounds.withMarks(5, 5);
        t.at(5, 5, 0, 1440);
        t.job(0, minutes, load, 1);
        return t;
    }

    /** "minutes (0 .. 600)". */
    private static void jobMinutes() {
        Checks.bounds("job(0, _, 0, 1)", 0, 600, v -> Rounds.withMarks(5, 5).job(0, v, 0, 1));
        Rounds.due("the least", withJob(0, 0), 1, 0, 0, 0, 0);
        Rounds.due("the most", withJob(600, 0), 1, 600, 0, 0, 0);
    }

    /** "LOAD (0 .. 1000)". */
    private static void jobLoad() {
        Checks.bounds("job(0, 0, _, 1)", 0, 1000, v -> Rounds.withMarks(5, 5).job(0, 0, v, 1));
        Rounds.due("the least", withJob(0, 0), 1, 0, 0, 0, 0);
        Rounds.due("the most", withJob(0, 1000), 1, 0, 1000, 0, 0);
    }

    /** "WEIGHT (1 .. 1000)", and 0 for none. */
    private static void jobWeight() {
        Checks.bounds("job(0, 0, 0, _)", 0, 1000, v -> Rounds.withMarks(5, 5).job(0, 0, 0, v));
        BuoyTender t = withJob(0, 0);
        Rounds.due("the least", t, 1, 0, 0, 0, 0);
        t.job(0, 0, 0, 1000);
        Rounds.due("the most", t, 1000, 0, 0, 0, 0);
    }

    /** "WEIGHT 0: none: true": minutes and LOAD are to be right still. */
    private static void jobOfWeightZero() {
        BuoyTender t = Rounds.withMarks(5, 5);
        t.at(5, 5, 0, 1440);
        Checks.yes("where there is none", t.job(0, 1, 1, 0));
        Checks.due("about(4)", t.about(4), 0);
        t.job(0, 1, 1, 1);
        Checks.bounds("job(0, _, 0, 0)", 0, 600, v -> withJob(1, 1).job(0, v, 0, 0));
        Checks.bounds("job(0, 0, _, 0)", 0, 1000, v -> withJob(1, 1).job(0, 0, v, 0));
        Checks.due("about(4)", t.about(4), 1);
        Checks.yes("in place of one", t.job(0, 1, 1, 0));
        Checks.due("about(4)", t.about(4), 0);
        Rounds.due("none", t, 0, 0, 0);
        Checks.yes("and again one", t.job(0, 2, 3, 4));
        Rounds.due("again one", t, 4, 2, 3, 0, 0);
    }

    /** A JOB that is taken away is in no round, though it would cost neither time nor LOAD. */
    private static void jobTakenAway() {
        BuoyTender t = Rounds.withMarks(5, 5, 5, 5);
        t.at(5, 5, 0, 1440);
        t.job(0, 0, 0, 1);
        t.job(1, 0, 0, 1);
        Rounds.due("both", t, 2, 0, 0, 0, 0, 1, 0);
        t.job(0, 0, 0, 0);
        Rounds.due("one", t, 1, 0, 0, 1, 0);
        t.job(1, 0, 0, 0);
        Rounds.due("none", t, 0, 0, 0);
    }

    /** "A mark's JOB (in place of one)". */
    private static void jobInPlaceOfOne() {
        BuoyTender t = withJob(10, 20);
        Checks.yes("job(0, 3, 4, 5)", t.job(0, 3, 4, 5));
        Checks.due("about(4)", t.about(4), 1);
        Rounds.due("the second", t, 5, 3, 4, 0, 0);
        Checks.no("job(0, 601, 1, 9)", t.job(0, 601, 1, 9));
        Checks.no("job(0, 1, 1001, 9)", t.job(0, 1, 1001, 9));
        Checks.no("job(0, 1, 1, 1001)", t.job(0, 1, 1, 1001));
        Checks.no("job(0, 1, 1, -1)", t.job(0, 1, 1, -1));
        Rounds.due("refused, it changes nothing", t, 5, 3, 4, 0, 0);
    }

    /** "JOBS, one of each mark at most": marks on one station have their own. */
    private static void oneJobOfEachMark() {
        BuoyTender t = Rounds.withMarks(5, 5, 5, 5);
        t.at(5, 5, 0, 1440);
        t.job(0, 1, 1, 1);
        t.job(1, 2, 2, 2);
        Checks.due("about(4)", t.about(4), 2);
        Rounds.due("both", t, 3, 3, 3, 0, 0, 1, 1);
    }

    /** "24 of them": hours 0 .. 23. */
    private static void weatherHours() {
        Checks.bounds("weather(_, 0, 0)", 0, 23, v -> new BuoyTender().weather(v, 0, 0));
        BuoyTender t = withJob(0, 0);
        for (int v : Checks.wild(0, 23)) {
            t.weather(v, -50, 12);
        }
        t.ship(1, 0, 0, 0);
        for (int hour = 0; hour < 24; hour++) {
            t.at(5, 5, hour * 60, 1440);
            Rounds.due("refused, it changes nothing in hour " + hour, t, 1, hour * 60, 0, 0, hour * 60);
        }
    }

    /** "TIDE .. -50 .. 50". */
    private static void weatherTide() {
        Checks.bounds("weather(0, _, 0)", -50, 50, v -> new BuoyTender().weather(0, v, 0));
        BuoyTender t = withJob(0, 0);
        t.depth(5, 5, 5, 5, 50);
        t.weather(0, -50, 0);
        Rounds.due("the least, just enough", t, 1, 0, 0, 0, 0);
        t.depth(5, 5, 5, 5, 49);
        Rounds.due("the least, one less", t, 1, 60, 0, 0, 60);
        t.weather(0, 50, 0);
        t.depth(5, 5, 5, 5, 0);
        t.ship(1, 50, 12, 0);
        Rounds.due("the most, just enough", t, 1, 0, 0, 0, 0);
        t.ship(1, 51, 12, 0);
        Rounds.due("the most, one more wanted", t, 0, 0, 0);
        t.depth(5, 5, 5, 5, 50);
        t.ship(1, 100, 12, 0);
        Rounds.due("DEPTH 50 and TIDE 50", t, 1, 0, 0, 0, 0);
    }

    /** "the WIND of that hour (0 .. 12 ..)". */
    private static void weatherWind() {
        Checks.bounds("weather(0, 0, _)", 0, 12, v -> new BuoyTender().weather(0, 0, v));
        BuoyTender t = withJob(0, 0);
        t.weather(0, 0, 12);
        Rounds.due("the most, borne", t, 1, 0, 0, 0, 0);
        t.ship(1, 0, 11, 0);
        Rounds.due("the most, not borne", t, 1, 60, 0, 0, 60);
        t.weather(0, 0, 0);
        t.ship(1, 0, 0, 0);
        Rounds.due("the least", t, 1, 0, 0, 0, 0);
    }

    /** "PACE (0 .. 60 minutes ..)". */
    private static void shipPace() {
        Checks.bounds("ship(_, 0, 0, 0)", 0, 60, v -> new BuoyTender().ship(v, 0, 0, 0));
        BuoyTender t = Rounds.withMarks(3, 0);
        t.job(0, 0, 0, 1);
        t.ship(60, 0, 12, 0);
        Rounds.due("the most", t, 1, 360, 0, 0, 180);
        t.ship(0, 0, 12, 0);
        Rounds.due("the least", t, 1, 0, 0, 0, 0);
    }

    /** "DRAUGHT (0 .. 100 ..)". */
    private static void shipDraught() {
        Checks.bounds("ship(0, _, 0, 0)", 0, 100, v -> new BuoyTender().ship(0, v, 0, 0));
        BuoyTender t = withJob(0, 0);
        t.depth(5, 5, 5, 5, 100);
        t.ship(1, 100, 12, 0);
        Rounds.due("the most, DEPTH 100", t, 1, 0, 0, 0, 0);
        t.depth(5, 5, 5, 5, 99);
        Rounds.due("the most, DEPTH 99", t, 0, 0, 0);
        t.depth(5, 5, 5, 5, 0);
        t.ship(1, 0, 12, 0);
        Rounds.due("the least, DEPTH 0", t, 1, 0, 0, 0, 0);
    }

    /** "MOST WIND (0 .. 12 ..)". */
    private static void shipMostWind() {
        Checks.bounds("ship(0, 0, _, 0)", 0, 12, v -> new BuoyTender().ship(0, 0, v, 0));
        BuoyTender t = withJob(0, 0);
        t.weather(0, 0, 1);
        t.ship(1, 0, 0, 0);
        Rounds.due("the least", t, 1, 60, 0, 0, 60);
        t.weather(0, 0, 12);
        t.ship(1, 0, 12, 0);
        Rounds.due("the most", t, 1, 0, 0, 0, 0);
    }

    /** "what it carries (0 .. 10000 ..)". */
    private static void shipCarries() {
        Checks.bounds("ship(0, 0, 0, _)", 0, 10000, v -> new BuoyTender().ship(0, 0, 0, v));
        BuoyTender t = Rounds.withMarks(5, 5, 5, 5, 5, 5, 5, 5, 5, 5, 5, 5, 5, 5, 5, 5, 5, 5, 5, 5);
        for (int i = 0; i < 10; i++) {
            t.job(i, 0, 1000, 1);
        }
        t.ship(0, 0, 12, 10000);
        Checks.due("the most: WEIGHT", t.round(0), 10);
        Checks.due("the most: LOAD", t.round(3), 10000);
        t.ship(0, 0, 12, 9999);
        Checks.due("one less: WEIGHT", t.round(0), 9);
        Checks.due("one less: LOAD", t.round(3), 9000);
        t.ship(0, 0, 12, 0);
        Rounds.due("the least", t, 0, 0, 0);
    }

    /** "The ship is at a PLACE". */
    private static void atPlaces() {
        Checks.bounds("at(_, 0, 0, 0)", 0, 39, v -> new BuoyTender().at(v, 0, 0, 0));
        Checks.bounds("at(0, _, 0, 0)", 0, 39, v -> new BuoyTender().at(0, v, 0, 0));
        BuoyTender t = Rounds.withMarks(39, 39);
        t.job(0, 0, 0, 1);
        int[][] places = {{39, 39, 0}, {38, 39, 1}, {39, 38, 1}, {0, 39, 39}, {39, 0, 39}, {0, 0, 39}};
        for (int[] p : places) {
            t.at(p[0], p[1], 0, 1440);
            Rounds.due("from " + p[0] + ", " + p[1], t, 1, 2 * p[2], 0, 0, p[2]);
        }
    }

    /** "at a minute to the END (0 .. 1440)". */
    private static void atMinutes() {
        Checks.bounds("at(0, 0, _, 1440)", 0, 1440, v -> new BuoyTender().at(0, 0, v, 1440));
        Checks.bounds("at(0, 0, 0, _)", 0, 1440, v -> new BuoyTender().at(0, 0, 0, v));
        for (int v : Checks.wild(0, 1440)) {
            Checks.no("at(0, 0, " + v + ", " + v + ")", new BuoyTender().at(0, 0, v, v));
        }
        BuoyTender t = new BuoyTender();
        t.at(0, 0, 1440, 1440);
        Checks.due("the last minute", t.round(1), 1440);
        Checks.due("the last END", t.about(5), 1440);
        t.at(0, 0, 0, 0);
        Checks.due("the first minute", t.round(1), 0);
        Checks.due("the first END", t.about(5), 0);
    }

    /** "False, changing nothing, .. if END is ahead of the minute": the same is not ahead. */
    private static void atEndAheadOfTheMinute() {
        BuoyTender t = withJob(0, 0);
        t.at(4, 5, 7, 100);
        Checks.no("at(5, 5, 10, 9)", t.at(5, 5, 10, 9));
        Checks.no("at(5, 5, 1, 0)", t.at(5, 5, 1, 0));
        Checks.no("at(5, 5, 1440, 1439)", t.at(5, 5, 1440, 1439));
        Checks.no("at(5, 5, 1440, 0)", t.at(5, 5, 1440, 0));
        Rounds.due("refused, it changes nothing", t, 1, 9, 0, 0, 8);
        Checks.due("refused, it changes nothing: END", t.about(5), 100);
        Checks.yes("at(5, 5, 10, 10)", t.at(5, 5, 10, 10));
        Rounds.due("the same", t, 1, 10, 0, 0, 10);
    }

    /** "the greater of the ways by x and by y, times PACE": each way, to and fro. */
    private static void greaterWay() {
        int[][] stations = {{27, 25, 7}, {25, 27, 7}, {13, 15, 7}, {15, 13, 7}, {27, 13, 7}, {20, 27, 7}, {13, 20, 7},
            {26, 26, 6}, {20, 20, 0}};
        for (int[] s : stations) {
            BuoyTender t = Rounds.withMarks(s[0], s[1]);
            t.at(20, 20, 0, 1440);
            t.ship(3, 0, 12, 0);
            t.job(0, 0, 0, 1);
            Rounds.due("to " + s[0] + ", " + s[1], t, 1, 6 * s[2], 0, 0, 3 * s[2]);
        }
        BuoyTender t = Rounds.withMarks(0, 0, 39, 1, 38, 39);
        t.job(0, 0, 0, 1);
        t.job(1, 0, 0, 1);
        t.job(2, 0, 0, 1);
        Rounds.due("from JOB to JOB", t, 3, 0 + 39 + 38 + 39, 0, 0, 0, 1, 39, 2, 77);
    }

    /** "the first minute not ahead of the ship's coming": that minute itself, where the hour is right. */
    private static void begunAtTheMinuteOfComing() {
        BuoyTender t = Rounds.withMarks(5, 5);
        t.job(0, 0, 0, 1);
        t.weather(1, -1, 0);
        t.at(0, 5, 54, 1440);
        Rounds.due("comes in the last minute", t, 1, 64, 0, 0, 59);
        t.at(0, 5, 55, 1440);
        Rounds.due("comes a minute too late", t, 1, 125, 0, 0, 120);
        t.at(0, 5, 114, 1440);
        Rounds.due("comes a minute too early", t, 1, 125, 0, 0, 120);
        t.at(0, 5, 115, 1440);
        Rounds.due("comes just then", t, 1, 125, 0, 0, 120);
        t.at(0, 5, 116, 1440);
        Rounds.due("comes a minute behind", t, 1, 126, 0, 0, 121);
    }

    /** "that hour (minute by 60 ..)". */
    private static void begunAtTheFirstMinuteOfAnHour() {
        for (int open = 0; open < 24; open++) {
            BuoyTender t = withJob(0, 0);
            t.ship(1, 1, 12, 0);
            t.weather(open, 1, 0);
            Rounds.due("open in hour " + open, t, 1, open * 60, 0, 0, open * 60);
            t.at(5, 5, open * 60 + 59, 1440);
            Rounds.due("in its last minute", t, 1, open * 60 + 59, 0, 0, open * 60 + 59);
            t.at(5, 5, open * 60 + 60, 1440);
            Rounds.due("behind it", t, 0, open * 60 + 60, 0);
        }
    }

    /** "DEPTH of the station and the TIDE .. are together not below the DRAUGHT": the same is not below. */
    private static void depthAndTideNotBelowDraught() {
        int[][] waters = {{20, 3, 23, 0}, {20, 2, 23, 60}, {20, -3, 17, 0}, {20, -4, 17, 60}, {0, 0, 0, 0}, {0, -1, 0, 60},
            {200, -50, 100, 0}, {50, 50, 100, 0}, {49, 50, 100, 60}, {1, -1, 0, 0}};
        for (int[] w : waters) {
            BuoyTender t = withJob(0, 0);
            for (int hour = 1; hour < 24; hour++) {
                t.weather(hour, 50, 0);
            }
            t.depth(5, 5, 5, 5, w[0]);
            t.weather(0, w[1], 0);
            t.ship(1, w[2], 12, 0);
            String name = "DEPTH " + w[0] + ", TIDE " + w[1] + ", DRAUGHT " + w[2];
            int begin = w[0] + 50 < w[2] ? -1 : w[3];
            Checks.due(name, t.round(200), begin);
        }
    }

    /** "the WIND of that hour .. is not above MOST WIND": the same is not above. */
    private static void windNotAboveMostWind() {
        for (int most = 0; most <= 12; most++) {
            BuoyTender t = withJob(0, 0);
            t.ship(1, 0, most, 0);
            t.weather(0, 0, most);
            Rounds.due("WIND " + most + " of " + most, t, 1, 0, 0, 0, 0);
            if (most < 12) {
                t.weather(0, 0, most + 1);
                Rounds.due("WIND " + (most + 1) + " of " + most, t, 1, 60, 0, 0, 60);
            }
        }
    }

    /** "A JOB is begun at ..": while it lasts, TIDE and WIND don't count. */
    private static void onlyTheBeginningCounts() {
        BuoyTender t = withJob(600, 0);
        t.ship(1, 0, 11, 0);
        for (int hour = 1; hour < 24; hour++) {
            t.weather(hour, -50, 12);
        }
        t.at(5, 5, 59, 1440);
        Rounds.due("begun ahead of it", t, 1, 659, 0, 0, 59);
        t.at(5, 5, 60, 1440);
        Rounds.due("never begun", t, 0, 60, 0);
    }

    /** Each hour has its own TIDE and its own WIND. */
    private static void eachHour() {
        for (int shut = 0; shut < 24; shut++) {
            BuoyTender t = withJob(0, 0);
            t.weather(shut, -1, 0);
            t.weather((shut + 1) % 24, 0, 12);
            t.ship(1, 0, 11, 0);
            for (int hour = 0; hour < 24; hour++) {
                t.at(5, 5, hour * 60, hour * 60);
                boolean open = hour != shut && hour != (shut + 1) % 24;
                Checks.due("hours " + shut + " and the next shut, in hour " + hour, t.round(0), open ? 1 : 0);
            }
        }
    }

    private static void lastMinuteOfTheDay() {
        BuoyTender t = withJob(0, 0);
        t.at(5, 5, 1439, 1440);
        Rounds.due("minute 1439", t, 1, 1439, 0, 0, 1439);
        t.job(0, 1, 0, 1);
        Rounds.due("done at 1440", t, 1, 1440, 0, 0, 1439);
        t.job(0, 2, 0, 1);
        Rounds.due("done too late", t, 0, 1439, 0);
        t.job(0, 0, 0, 1);
        t.weather(23, -1, 0);
        Rounds.due("shut in the last hour", t, 0, 1439, 0);
    }

    /** "24 of them": minute 1440 is in none. */
    private static void noHour24() {
        BuoyTender t = withJob(0, 0);
        t.at(5, 5, 1440, 1440);
        Rounds.due("minute 1440", t, 0, 1440, 0);
        t.at(4, 5, 1438, 1440);
        Rounds.due("comes at 1439", t, 1, 1440, 0, 0, 1439);
        t.at(4, 5, 1439, 1440);
        Rounds.due("comes at 1440", t, 0, 1439, 0);
    }

    /** "It is done minutes later": the next begins then, not a minute on. */
    private static void doneMinutesLater() {
        BuoyTender t = Rounds.withMarks(5, 5, 5, 5, 5, 5);
        t.at(5, 5, 10, 1440);
        t.job(0, 7, 0, 1);
        t.job(1, 0, 0, 1);
        t.job(2, 3, 0, 1);
        Rounds.due("one behind the other", t, 3, 20, 0, 0, 10, 1, 17, 2, 17);
    }

    /** "Behind its last JOB the ship comes to where it began." */
    private static void comesBackToWhereItBegan() {
        BuoyTender t = Rounds.withMarks(30, 10, 20, 10);
        t.at(10, 10, 100, 1440);
        t.job(0, 1, 0, 1);
        Rounds.due("one", t, 1, 141, 0, 0, 120);
        t.job(1, 1, 0, 1);
        Rounds.due("two", t, 2, 142, 0, 0, 120, 1, 131);
    }

    /** "LOADS of the JOBS done are not above what it carries": the same is not above. */
    private static void loadsNotAboveWhatItCarries() {
        BuoyTender t = Rounds.withMarks(5, 5, 5, 5);
        t.at(5, 5, 0, 1440);
        t.job(0, 0, 40, 5);
        t.job(1, 0, 60, 7);
        int[][] loads = {{100, 12, 100}, {99, 7, 60}, {60, 7, 60}, {59, 5, 40}, {40, 5, 40}, {39, 0, 0}, {0, 0, 0}};
        for (int[] l : loads) {
            t.ship(1, 0, 12, l[0]);
            Checks.due("carries " + l[0] + ": WEIGHT", t.round(0), l[1]);
            Checks.due("carries " + l[0] + ": LOAD", t.round(3), l[2]);
        }
        t.job(0, 0, 0, 5);
        t.job(1, 0, 0, 7);
        Rounds.due("carries 0, LOADS 0", t, 12, 0, 0, 0, 0, 1, 0);
    }

    /** "it is back at the END": just then is not too late. */
    private static void backAtTheEnd() {
        BuoyTender t = Rounds.withMarks(10, 0);
        t.job(0, 7, 0, 1);
        t.at(0, 0, 0, 27);
        Rounds.due("just back", t, 1, 27, 0, 0, 10);
        t.at(0, 0, 0, 26);
        Rounds.due("a minute too late", t, 0, 0, 0);
        t.at(0, 0, 1413, 1440);
        Rounds.due("just back at the last minute", t, 1, 1440, 0, 0, 1423);
        t.at(0, 0, 1414, 1440);
        Rounds.due("a minute too late at the last minute", t, 0, 1414, 0);
    }

    private static void endAtTheMinute() {
        BuoyTender t = Rounds.withMarks(5, 5, 6, 5);
        t.at(5, 5, 30, 30);
        t.job(0, 0, 0, 1);
        t.job(1, 0, 0, 100);
        Rounds.due("only what takes no time", t, 1, 30, 0, 0, 30);
        t.ship(0, 0, 12, 0);
        Rounds.due("with PACE 0", t, 101, 30, 0, 0, 30, 1, 30);
        t.job(0, 1, 0, 1);
        Rounds.due("a JOB of a minute", t, 100, 30, 0, 1, 30);
    }

    /** "THE ROUND: the most WEIGHT": one more counts for more than being back earlier. */
    private static void mostWeight() {
        BuoyTender t = Rounds.withMarks(1, 0, 39, 0);
        t.job(0, 0, 2, 5);
        t.job(1, 600, 2, 6);
        t.ship(1, 0, 12, 3);
        Rounds.due("6 of 5", t, 6, 678, 2, 1, 39);
        t.job(0, 0, 2, 6);
        Rounds.due("6 of 6", t, 6, 2, 2, 0, 1);
    }

    /** "then back earliest": a minute counts for more than the lower mark. */
    private static void thenBackEarliest() {
        BuoyTender t = Rounds.withMarks(5, 0, 5, 0);
        t.job(0, 11, 2, 5);
        t.job(1, 10, 2, 5);
        t.ship(1, 0, 12, 3);
        Rounds.due("a minute earlier", t, 5, 20, 2, 1, 5);
        t.job(0, 10, 2, 5);
        Rounds.due("as early", t, 5, 20, 2, 0, 5);
    }

    /** "then the first by its marks (the lower first ..)". */
    private static void thenTheLowerFirst() {
        BuoyTender t = Rounds.withMarks(10, 0, 0, 10, 5, 5);
        t.job(0, 1, 0, 5);
        t.job(1, 1, 0, 5);
        Rounds.due("either way round", t, 10, 32, 0, 0, 10, 1, 21);
        t.job(2, 1, 0, 5);
        Rounds.due("0, 1, 2 ahead of 0, 2, 1", t, 15, 33, 0, 0, 10, 1, 21, 2, 27);
        BuoyTender u = Rounds.withMarks(5, 0, 5, 0, 5, 0, 5, 0);
        u.job(0, 2, 0, 3);
        u.job(1, 3, 0, 4);
        u.job(2, 3, 0, 4);
        u.job(3, 5, 0, 7);
        u.at(0, 0, 0, 15);
        Rounds.due("0, 1 ahead of 0, 2 and of 3", u, 7, 15, 0, 0, 5, 1, 7);
    }

    private static void noRound() {
        BuoyTender t = Rounds.withMarks(5, 5);
        t.at(3, 3, 77, 100);
        Rounds.due("no JOB", t, 0, 77, 0);
        t.job(0, 600, 0, 1);
        Rounds.due("none that can be done", t, 0, 77, 0);
    }

    private static void allTenJobs() {
        BuoyTender t = Rounds.withMarks(9, 0, 8, 0, 7, 0, 6, 0, 5, 0, 4, 0, 3, 0, 2, 0, 1, 0, 0, 0);
        for (int i = 0; i < 10; i++) {
            t.job(i, 0, 1, 1000);
        }
        Rounds.due("all ten", t, 10000, 18, 10, 0, 9, 1, 10, 2, 11, 3, 12, 4, 13, 5, 14, 6, 15, 7, 16, 8, 17, 9, 18);
        t.ship(0, 0, 12, 10);
        Rounds.due("all ten at once", t, 10000, 0, 10, 0, 0, 1, 0, 2, 0, 3, 0, 4, 0, 5, 0, 6, 0, 7, 0, 8, 0, 9, 0);
    }

    /** "NONE for others." */
    private static void roundBounds() {
        BuoyTender t = Rounds.withMarks(1, 0, 2, 0);
        Checks.bounds("no JOBS: round(_)", 0, 3, v -> t.round(v) != BuoyTender.NONE);
        Checks.none("no JOBS: round(100)", t.round(100));
        Checks.none("no JOBS: round(200)", t.round(200));
        t.job(0, 5, 3, 4);
        t.job(1, 5, 3, 4);
        Checks.bounds("round(_)", 0, 3, v -> t.round(v) != BuoyTender.NONE);
        Checks.bounds("round(_)", 100, 101, v -> t.round(v) != BuoyTender.NONE);
        Checks.bounds("round(_)", 200, 201, v -> t.round(v) != BuoyTender.NONE);
        int[] others = {-1, 4, 50, 99, 102, 109, 110, 199, 202, 209, 210, 300, 1000, Integer.MAX_VALUE, Integer.MIN_VALUE};
        for (int what : others) {
            Checks.none("round(" + what + ")", t.round(what));
        }
    }
}

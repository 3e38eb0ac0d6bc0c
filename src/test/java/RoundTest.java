/** Promises 20 to 24: job, weather, ship, at, round. */
public final class RoundTest {
    public static void main(String[] args) {
        jobBounds();
        weatherBounds();
        shipBounds();
        atBounds();
        roundBounds();
        waysAndPace();
        tideAndDraught();
        windOfHours();
        onlyTheBeginningCounts();
        lastMinutes();
        loads();
        backAtTheEnd();
        mostWeight();
        backEarliest();
        firstByMarks();
        firstByMarksWhileWaiting();
        firstByMarksOfOtherSets();
        plannedAnew();
        tenJobs();
        Checks.finish();
    }

    private static BuoyTender withMarks(int... places) {
        BuoyTender t = new BuoyTender();
        for (int i = 0; i + 1 < places.length; i += 2) {
            t.mark(places[i], places[i + 1], 0);
        }
        t.ship(1, 0, 12, 10000);
        return t;
    }

    /** The round's weight, back, load, and then mark and beginning of each job. */
    private static void dueRound(String name, BuoyTender t, int weight, int back, int load, int... steps) {
        int many = steps.length / 2;
        Checks.due(name + ": round(0)", t.round(0), weight);
        Checks.due(name + ": round(1)", t.round(1), back);
        Checks.due(name + ": round(2)", t.round(2), many);
        Checks.due(name + ": round(3)", t.round(3), load);
        for (int i = 0; i < many; i++) {
            Checks.due(name + ": round(" + (100 + i) + ")", t.round(100 + i), steps[2 * i]);
            Checks.due(name + ": round(" + (200 + i) + ")", t.round(200 + i), steps[2 * i + 1]);
        }
        Checks.none(name + ": round(" + (100 + many) + ")", t.round(100 + many));
        Checks.none(name + ": round(" + (200 + many) + ")", t.round(200 + many));
    }

    private static void jobBounds() {
        BuoyTender t = withMarks(0, 0);
        for (int v : Checks.wild(0, 0)) {
            Checks.no("job(" + v + ", 1, 1, 1)", t.job(v, 1, 1, 1));
            Checks.no("job(" + v + ", 1, 1, 0)", t.job(v, 1, 1, 0));
        }
        for (int v : Checks.wild(0, 600)) {
            Checks.no("job(0, " + v + ", 1, 1)", t.job(0, v, 1, 1));
        }
        for (int v : Checks.wild(0, 1000)) {
            Checks.no("job(0, 1, " + v + ", 1)", t.job(0, 1, v, 1));
            Checks.no("job(0, 1, 1, " + v + ")", t.job(0, 1, 1, v));
        }
        Checks.due("about(4)", t.about(4), 0);
        Checks.yes("none where there is none", t.job(0, 1, 1, 0));
        Checks.due("about(4)", t.about(4), 0);
        Checks.yes("job(0, 600, 1000, 1000)", t.job(0, 600, 1000, 1000));
        dueRound("the greatest", t, 1000, 600, 1000, 0, 0);
        Checks.no("job(0, 601, 0, 1)", t.job(0, 601, 0, 1));
        Checks.no("no weight, but wrong minutes", t.job(0, 601, 0, 0));
        Checks.no("no weight, but a wrong load", t.job(0, 0, 1001, 0));
        dueRound("false changes nothing", t, 1000, 600, 1000, 0, 0);
        Checks.yes("job(0, 0, 0, 1)", t.job(0, 0, 0, 1));
        dueRound("in place of it", t, 1, 0, 0, 0, 0);
        Checks.due("about(4)", t.about(4), 1);
        Checks.yes("job(0, 0, 0, 0)", t.job(0, 0, 0, 0));
        Checks.due("about(4)", t.about(4), 0);
        dueRound("none", t, 0, 0, 0);
    }

    private static void weatherBounds() {
        BuoyTender t = withMarks(0, 0);
        t.job(0, 0, 0, 1);
        for (int v : Checks.wild(0, 23)) {
            Checks.no("weather(" + v + ", -50, 12)", t.weather(v, -50, 12));
        }
        for (int v : Checks.wild(-50, 50)) {
            Checks.no("weather(0, " + v + ", 12)", t.weather(0, v, 12));
        }
        for (int v : Checks.wild(0, 12)) {
            Checks.no("weather(0, -50, " + v + ")", t.weather(0, -50, v));
        }
        dueRound("false changes nothing", t, 1, 0, 0, 0, 0);
        Checks.yes("weather(0, -50, 0)", t.weather(0, -50, 0));
        Checks.yes("weather(23, 50, 12)", t.weather(23, 50, 12));
        dueRound("the first hour is too low", t, 1, 60, 0, 0, 60);
        t.depth(0, 0, 0, 0, 50);
        dueRound("just deep enough", t, 1, 0, 0, 0, 0);
        t.depth(0, 0, 0, 0, 0);
        t.ship(1, 50, 12, 0);
        dueRound("only the last hour is high enough", t, 1, 1380, 0, 0, 1380);
        t.ship(1, 51, 12, 0);
        dueRound("none is", t, 0, 0, 0);
    }

    private static void shipBounds() {
        BuoyTender t = withMarks(3, 0);
        t.job(0, 0, 5, 1);
        t.ship(2, 0, 12, 5);
        for (int v : Checks.wild(0, 60)) {
            Checks.no("ship(" + v + ", 9, 1, 1)", t.ship(v, 9, 1, 1));
        }
        for (int v : Checks.wild(0, 100)) {
            Checks.no("ship(9, " + v + ", 1, 1)", t.ship(9, v, 1, 1));
        }
        for (int v : Checks.wild(0, 12)) {
            Checks.no("ship(9, 9, " + v + ", 1)", t.ship(9, 9, v, 1));
        }
        for (int v : Checks.wild(0, 10000)) {
            Checks.no("ship(9, 9, 1, " + v + ")", t.ship(9, 9, 1, v));
        }
        dueRound("false changes nothing", t, 1, 12, 5, 0, 6);
        Checks.yes("ship(60, 0, 0, 10000)", t.ship(60, 0, 0, 10000));
        dueRound("PACE 60", t, 1, 360, 5, 0, 180);
        Checks.yes("ship(0, 0, 0, 5)", t.ship(0, 0, 0, 5));
        dueRound("PACE 0", t, 1, 0, 5, 0, 0);
        t.depth(3, 0, 3, 0, 100);
        Checks.yes("ship(0, 100, 0, 5)", t.ship(0, 100, 0, 5));
        dueRound("DRAUGHT 100", t, 1, 0, 5, 0, 0);
        t.depth(3, 0, 3, 0, 99);
        dueRound("DRAUGHT 100, DEPTH 99", t, 0, 0, 0);
        Checks.yes("ship(0, 0, 0, 0)", t.ship(0, 0, 0, 0));
        dueRound("carries 0", t, 0, 0, 0);
    }

    private static void atBounds() {
        BuoyTender t = withMarks(3, 0);
        t.job(0, 0, 0, 1);
        t.at(2, 0, 7, 100);
        for (int v : Checks.wild(0, 39)) {
            Checks.no("at(" + v + ", 1, 1, 9)", t.at(v, 1, 1, 9));
            Checks.no("at(1, " + v + ", 1, 9)", t.at(1, v, 1, 9));
        }
        for (int v : Checks.wild(0, 1440)) {
            Checks.no("at(1, 1, " + v + ", 1440)", t.at(1, 1, v, 1440));
            Checks.no("at(1, 1, 0, " + v + ")", t.at(1, 1, 0, v));
        }
        Checks.no("at(1, 1, 1441, 1441)", t.at(1, 1, 1441, 1441));
        Checks.no("at(1, 1, 10, 9)", t.at(1, 1, 10, 9));
        dueRound("false changes nothing", t, 1, 9, 0, 0, 8);
        Checks.due("about(5)", t.about(5), 100);
        Checks.yes("at(39, 39, 10, 10)", t.at(39, 39, 10, 10));
        dueRound("END at the minute", t, 0, 10, 0);
        Checks.due("about(5)", t.about(5), 10);
        Checks.yes("at(3, 0, 10, 10)", t.at(3, 0, 10, 10));
        dueRound("END at the minute, at the station", t, 1, 10, 0, 0, 10);
        Checks.yes("at(0, 0, 1440, 1440)", t.at(0, 0, 1440, 1440));
        dueRound("the last minute", t, 0, 1440, 0);
        Checks.yes("at(0, 0, 0, 0)", t.at(0, 0, 0, 0));
        dueRound("minute 0", t, 0, 0, 0);
    }

    private static void roundBounds() {
        BuoyTender t = withMarks(1, 0, 2, 0);
        t.job(0, 5, 3, 4);
        t.job(1, 5, 3, 4);
        for (int what : new int[] {-1, 4, 5, 10, 50, 99, 102, 103, 109, 110, 199, 202, 210, 300, 1000, Integer.MAX_VALUE,
            Integer.MIN_VALUE}) {
            Checks.none("round(" + what + ")", t.round(what));
        }
        dueRound("two", t, 8, 14, 6, 0, 1, 1, 7);
    }

    private static void waysAndPace() {
        BuoyTender t = withMarks(13, 17, 20, 12);
        t.at(10, 10, 100, 1440);
        t.ship(3, 0, 12, 10000);
        t.job(0, 4, 0, 1);
        t.job(1, 5, 0, 1);
        // 7 to the one, 7 on to the other, 10 back, each times 3.
        dueRound("the greater way", t, 2, 100 + 21 + 4 + 21 + 5 + 30, 0, 0, 121, 1, 146);
        t.job(1, 5, 0, 0);
        dueRound("there and back", t, 1, 100 + 21 + 4 + 21, 0, 0, 121);
    }

    private static void tideAndDraught() {
        BuoyTender t = withMarks(5, 5);
        t.depth(5, 5, 5, 5, 20);
        t.job(0, 10, 0, 1);
        t.ship(1, 23, 12, 0);
        for (int hour = 0; hour < 24; hour++) {
            t.weather(hour, hour < 6 ? 2 : 3, 0);
        }
        t.at(5, 5, 0, 1440);
        dueRound("waits for the tide", t, 1, 370, 0, 0, 360);
        t.at(5, 5, 359, 1440);
        dueRound("waits a minute", t, 1, 370, 0, 0, 360);
        t.at(5, 5, 360, 1440);
        dueRound("comes with the tide", t, 1, 370, 0, 0, 360);
        t.at(5, 5, 361, 1440);
        dueRound("comes behind it", t, 1, 371, 0, 0, 361);
        t.at(5, 5, 0, 369);
        dueRound("END ahead of it", t, 0, 0, 0);
        t.ship(1, 22, 12, 0);
        dueRound("less DRAUGHT", t, 1, 10, 0, 0, 0);
    }

    private static void windOfHours() {
        BuoyTender t = withMarks(5, 5);
        t.job(0, 10, 0, 1);
        t.at(5, 5, 130, 1440);
        t.ship(1, 0, 6, 0);
        t.weather(2, 0, 7);
        t.weather(3, 0, 12);
        t.weather(4, 0, 6);
        dueRound("waits for less wind", t, 1, 250, 0, 0, 240);
        t.ship(1, 0, 7, 0);
        dueRound("bears more wind", t, 1, 140, 0, 0, 130);
        t.ship(1, 0, 0, 0);
        dueRound("bears none", t, 1, 310, 0, 0, 300);
        for (int hour = 5; hour < 24; hour++) {
            t.weather(hour, 0, 1);
        }
        dueRound("and the hours that are gone don't count", t, 0, 130, 0);
    }

    private static void onlyTheBeginningCounts() {
        BuoyTender t = withMarks(5, 5);
        t.job(0, 200, 0, 1);
        t.at(5, 5, 59, 1440);
        t.weather(1, 0, 12);
        t.weather(2, 0, 12);
        t.ship(1, 0, 0, 0);
        dueRound("wind behind the beginning", t, 1, 259, 0, 0, 59);
        t.weather(0, 0, 12);
        dueRound("wind at the beginning", t, 1, 380, 0, 0, 180);
    }

    private static void lastMinutes() {
        BuoyTender t = withMarks(5, 5);
        t.job(0, 0, 0, 1);
        t.at(5, 5, 1439, 1440);
        dueRound("the last minute of the day", t, 1, 1439, 0, 0, 1439);
        t.job(0, 1, 0, 1);
        dueRound("done at 1440", t, 1, 1440, 0, 0, 1439);
        t.job(0, 2, 0, 1);
        dueRound("done too late", t, 0, 1439, 0);
        t.job(0, 0, 0, 1);
        t.at(5, 5, 1440, 1440);
        dueRound("there is no hour 24", t, 0, 1440, 0);
        t.mark(5, 5, 0);
        t.job(0, 1, 0, 1);
        t.job(1, 0, 0, 1);
        t.at(5, 5, 1439, 1440);
        dueRound("two in the last minute", t, 2, 1440, 0, 1, 1439, 0, 1439);
        t.job(0, 0, 0, 1);
        t.at(5, 5, 0, 0);
        dueRound("two in the first minute", t, 2, 0, 0, 0, 0, 1, 0);
    }

    private static void loads() {
        BuoyTender t = withMarks(1, 0, 2, 0, 3, 0);
        t.job(0, 0, 4, 5);
        t.job(1, 0, 5, 6);
        t.job(2, 0, 6, 7);
        t.ship(1, 0, 12, 15);
        dueRound("all", t, 18, 6, 15, 0, 1, 1, 2, 2, 3);
        t.ship(1, 0, 12, 14);
        dueRound("two heavy ones", t, 13, 6, 11, 1, 2, 2, 3);
        t.ship(1, 0, 12, 10);
        dueRound("4 and 6", t, 12, 6, 10, 0, 1, 2, 3);
        t.ship(1, 0, 12, 9);
        dueRound("4 and 5", t, 11, 4, 9, 0, 1, 1, 2);
        t.ship(1, 0, 12, 3);
        dueRound("none", t, 0, 0, 0);
    }

    private static void backAtTheEnd() {
        BuoyTender t = withMarks(10, 0);
        t.job(0, 7, 0, 1);
        t.at(0, 0, 0, 27);
        dueRound("just back", t, 1, 27, 0, 0, 10);
        t.at(0, 0, 0, 26);
        dueRound("too late by a minute", t, 0, 0, 0);
        t.at(0, 0, 3, 29);
        dueRound("too late, later", t, 0, 3, 0);
    }

    private static void mostWeight() {
        BuoyTender t = withMarks(10, 0, 0, 10, 39, 39);
        t.job(0, 10, 0, 5);
        t.job(1, 10, 0, 6);
        t.job(2, 10, 0, 12);
        t.at(0, 0, 0, 88);
        dueRound("one far weighs more than two", t, 12, 88, 0, 2, 39);
        t.at(0, 0, 0, 87);
        dueRound("two near", t, 11, 50, 0, 0, 10, 1, 30);
        t.at(0, 0, 0, 49);
        dueRound("one", t, 6, 30, 0, 1, 10);
    }

    private static void backEarliest() {
        BuoyTender t = withMarks(10, 0, 5, 0);
        t.job(0, 10, 0, 5);
        t.job(1, 19, 0, 5);
        t.at(0, 0, 0, 30);
        dueRound("the same weight, back earlier", t, 5, 29, 0, 1, 5);
        t.at(0, 0, 0, 1440);
        t.ship(1, 0, 5, 0);
        t.weather(0, 0, 6);
        t.depth(5, 0, 5, 0, 1);
        t.ship(1, 1, 5, 0);
        t.depth(10, 0, 10, 0, 1);
        t.weather(0, 0, 5);
        t.weather(1, 0, 6);
        t.at(0, 0, 40, 1440);
        // The one at 50, done at 60: the other waits until 120. The other at 45, done at 64: the one waits until 120.
        dueRound("order by the hours", t, 10, 140, 0, 1, 45, 0, 120);
        t.job(1, 10, 0, 5);
        dueRound("the order turned", t, 10, 135, 0, 0, 50, 1, 120);
        t.job(1, 9, 0, 5);
        dueRound("both ahead of the wind", t, 10, 79, 0, 1, 45, 0, 59);
    }

    private static void firstByMarks() {
        BuoyTender t = withMarks(10, 0, 0, 10, 10, 0);
        t.job(0, 1, 0, 5);
        t.job(1, 1, 0, 5);
        dueRound("either way round", t, 10, 32, 0, 0, 10, 1, 21);
        t.job(0, 1, 0, 0);
        t.job(2, 1, 0, 5);
        dueRound("the lower first", t, 10, 32, 0, 1, 10, 2, 21);
        t.job(0, 1, 0, 5);
        t.at(0, 0, 0, 33);
        dueRound("all three", t, 15, 33, 0, 0, 10, 2, 11, 1, 22);
    }

    /** The order 1, 0, 2 reaches 2 sooner, but 2 opens only at 120: 0, 1, 2 is back as early, and comes first. */
    private static void firstByMarksWhileWaiting() {
        BuoyTender t = withMarks(20, 0, 5, 0, 22, 0);
        t.depth(0, 0, 39, 39, 10);
        t.depth(22, 0, 22, 0, 5);
        t.ship(1, 10, 12, 0);
        for (int hour = 2; hour < 24; hour++) {
            t.weather(hour, 5, 0);
        }
        t.job(0, 3, 0, 1);
        t.job(1, 3, 0, 1);
        t.job(2, 3, 0, 1);
        dueRound("waiting makes them equal", t, 3, 145, 0, 0, 20, 1, 38, 2, 120);
        t.job(2, 3, 0, 0);
        dueRound("without waiting", t, 2, 46, 0, 0, 20, 1, 38);
    }

    private static void firstByMarksOfOtherSets() {
        BuoyTender t = withMarks(5, 0, 5, 0, 5, 0, 5, 0);
        t.job(0, 2, 0, 3);
        t.job(1, 5, 0, 7);
        t.job(2, 3, 0, 4);
        t.job(3, 5, 0, 7);
        t.at(0, 0, 0, 15);
        dueRound("0 and 2 together are as 1 or 3", t, 7, 15, 0, 0, 5, 2, 7);
        t.job(0, 2, 0, 2);
        dueRound("1 ahead of 3", t, 7, 15, 0, 1, 5);
        t.job(0, 5, 0, 7);
        dueRound("0 ahead of 1", t, 7, 15, 0, 0, 5);
    }

    private static void plannedAnew() {
        BuoyTender t = withMarks(5, 0, 6, 0);
        t.job(0, 2, 1, 3);
        Checks.due("first", t.round(1), 12);
        t.job(1, 2, 1, 3);
        Checks.due("behind job", t.round(1), 16);
        t.ship(2, 0, 12, 2);
        Checks.due("behind ship", t.round(1), 28);
        t.at(5, 0, 0, 1440);
        Checks.due("behind at", t.round(1), 8);
        t.weather(0, -1, 0);
        Checks.due("behind weather", t.round(1), 66);
        t.depth(5, 0, 6, 0, 1);
        Checks.due("behind depth", t.round(1), 8);
        t.mark(9, 9, 1);
        t.day(99);
        Checks.due("behind what doesn't count", t.round(1), 8);
    }

    private static void tenJobs() {
        BuoyTender t = new BuoyTender();
        for (int i = 0; i < 10; i++) {
            t.mark(39 - 3 * i, 0, 0);
            t.job(i, i, 100, 100);
        }
        t.ship(1, 0, 12, 1000);
        dueRound("all ten", t, 1000, 78 + 45, 1000, 0, 39, 1, 42, 2, 46, 3, 51, 4, 57, 5, 64, 6, 72, 7, 81, 8, 91, 9, 102);
        t.ship(1, 0, 12, 999);
        Checks.due("nine of ten", t.round(2), 9);
        Checks.due("nine of ten: back", t.round(1), 78 + 36);
        Checks.due("nine of ten: the first", t.round(100), 0);
        Checks.due("nine of ten: the last", t.round(108), 8);
        tenJobsInTheLastMinute();
    }

    private static void tenJobsInTheLastMinute() {
        BuoyTender t = new BuoyTender();
        for (int i = 0; i < 10; i++) {
            t.mark(5, 5, 0);
            t.job(i, i == 0 ? 1 : 0, 0, 1);
        }
        t.at(5, 5, 1439, 1440);
        dueRound("ten in the last minute", t, 10, 1440, 0, 1, 1439, 2, 1439, 3, 1439, 4, 1439, 5, 1439, 6, 1439, 7, 1439, 8,
            1439, 9, 1439, 0, 1439);
    }
}

/** Promises 20 to 24: job, weather, ship, at, round. */
public final class RoundTest {
    public static void main(String[] args) {
        waysAndPace();
        tideAndDraught();
        windOfHours();
        jobsOfNoMinutes();
        loads();
        mostWeight();
        backEarliest();
        firstByMarks();
        firstByMarksWhileWaiting();
        firstByMarksToTheLastMinute();
        firstByMarksOfAShutHour();
        firstByMarksOfOtherSets();
        plannedAnew();
        tenJobs();
        Checks.finish();
    }

    private static void waysAndPace() {
        BuoyTender t = Rounds.withMarks(13, 17, 20, 12);
        t.at(10, 10, 100, 1440);
        t.ship(3, 0, 12, 10000);
        t.job(0, 4, 0, 1);
        t.job(1, 5, 0, 1);
        // 7 to the one, 7 on to the other, 10 back, each times 3.
        Rounds.due("the greater way", t, 2, 100 + 21 + 4 + 21 + 5 + 30, 0, 0, 121, 1, 146);
        t.job(1, 5, 0, 0);
        Rounds.due("there and back", t, 1, 100 + 21 + 4 + 21, 0, 0, 121);
    }

    private static void tideAndDraught() {
        BuoyTender t = Rounds.withMarks(5, 5);
        t.depth(5, 5, 5, 5, 20);
        t.job(0, 10, 0, 1);
        t.ship(1, 23, 12, 0);
        for (int hour = 0; hour < 24; hour++) {
            t.weather(hour, hour < 6 ? 2 : 3, 0);
        }
        t.at(5, 5, 0, 1440);
        Rounds.due("waits for the tide", t, 1, 370, 0, 0, 360);
        t.at(5, 5, 359, 1440);
        Rounds.due("waits a minute", t, 1, 370, 0, 0, 360);
        t.at(5, 5, 360, 1440);
        Rounds.due("comes with the tide", t, 1, 370, 0, 0, 360);
        t.at(5, 5, 361, 1440);
        Rounds.due("comes behind it", t, 1, 371, 0, 0, 361);
        t.at(5, 5, 0, 369);
        Rounds.due("END ahead of it", t, 0, 0, 0);
        t.ship(1, 22, 12, 0);
        Rounds.due("less DRAUGHT", t, 1, 10, 0, 0, 0);
    }

    private static void windOfHours() {
        BuoyTender t = Rounds.withMarks(5, 5);
        t.job(0, 10, 0, 1);
        t.at(5, 5, 130, 1440);
        t.ship(1, 0, 6, 0);
        t.weather(2, 0, 7);
        t.weather(3, 0, 12);
        t.weather(4, 0, 6);
        Rounds.due("waits for less wind", t, 1, 250, 0, 0, 240);
        t.ship(1, 0, 7, 0);
        Rounds.due("bears more wind", t, 1, 140, 0, 0, 130);
        t.ship(1, 0, 0, 0);
        Rounds.due("bears none", t, 1, 310, 0, 0, 300);
        for (int hour = 5; hour < 24; hour++) {
            t.weather(hour, 0, 1);
        }
        Rounds.due("and the hours that are gone don't count", t, 0, 130, 0);
    }

    private static void jobsOfNoMinutes() {
        BuoyTender t = Rounds.withMarks(5, 5, 5, 5);
        t.job(0, 1, 0, 1);
        t.job(1, 0, 0, 1);
        t.at(5, 5, 1439, 1440);
        Rounds.due("two in the last minute", t, 2, 1440, 0, 1, 1439, 0, 1439);
        t.job(0, 0, 0, 1);
        t.at(5, 5, 0, 0);
        Rounds.due("two in the first minute", t, 2, 0, 0, 0, 0, 1, 0);
    }

    private static void loads() {
        BuoyTender t = Rounds.withMarks(1, 0, 2, 0, 3, 0);
        t.job(0, 0, 4, 5);
        t.job(1, 0, 5, 6);
        t.job(2, 0, 6, 7);
        t.ship(1, 0, 12, 15);
        Rounds.due("all", t, 18, 6, 15, 0, 1, 1, 2, 2, 3);
        t.ship(1, 0, 12, 14);
        Rounds.due("two heavy ones", t, 13, 6, 11, 1, 2, 2, 3);
        t.ship(1, 0, 12, 10);
        Rounds.due("4 and 6", t, 12, 6, 10, 0, 1, 2, 3);
        t.ship(1, 0, 12, 9);
        Rounds.due("4 and 5", t, 11, 4, 9, 0, 1, 1, 2);
        t.ship(1, 0, 12, 3);
        Rounds.due("none", t, 0, 0, 0);
    }

    private static void mostWeight() {
        BuoyTender t = Rounds.withMarks(10, 0, 0, 10, 39, 39);
        t.job(0, 10, 0, 5);
        t.job(1, 10, 0, 6);
        t.job(2, 10, 0, 12);
        t.at(0, 0, 0, 88);
        Rounds.due("one far weighs more than two", t, 12, 88, 0, 2, 39);
        t.at(0, 0, 0, 87);
        Rounds.due("two near", t, 11, 50, 0, 0, 10, 1, 30);
        t.at(0, 0, 0, 49);
        Rounds.due("one", t, 6, 30, 0, 1, 10);
    }

    private static void backEarliest() {
        BuoyTender t = Rounds.withMarks(10, 0, 5, 0);
        t.job(0, 10, 0, 5);
        t.job(1, 19, 0, 5);
        t.at(0, 0, 0, 30);
        Rounds.due("the same weight, back earlier", t, 5, 29, 0, 1, 5);
        t.at(0, 0, 0, 1440);
        t.ship(1, 0, 5, 0);
        t.weather(0, 0, 6);
        t.depth(5, 0, 5, 0, 1);
        t.ship(1, 1, 5, 0);
        t.depth(10, 0, 10, 0, 1);
        t.weather(0, 0, 5);
        t.weather(1, 0, 6);
        t.at(0, 0, 40, 1440);
        // The one at 50, done at 60: the other waits until 120. The other at 45, done at 64: the one waits until 120.
        Rounds.due("order by the hours", t, 10, 140, 0, 1, 45, 0, 120);
        t.job(1, 10, 0, 5);
        Rounds.due("the order turned", t, 10, 135, 0, 0, 50, 1, 120);
        t.job(1, 9, 0, 5);
        Rounds.due("both ahead of the wind", t, 10, 79, 0, 1, 45, 0, 59);
    }

    private static void firstByMarks() {
        BuoyTender t = Rounds.withMarks(10, 0, 0, 10, 10, 0);
        t.job(0, 1, 0, 5);
        t.job(1, 1, 0, 5);
        Rounds.due("either way round", t, 10, 32, 0, 0, 10, 1, 21);
        t.job(0, 1, 0, 0);
        t.job(2, 1, 0, 5);
        Rounds.due("the lower first", t, 10, 32, 0, 1, 10, 2, 21);
        t.job(0, 1, 0, 5);
        t.at(0, 0, 0, 33);
        Rounds.due("all three", t, 15, 33, 0, 0, 10, 2, 11, 1, 22);
    }

    /** The order 1, 0, 2 reaches 2 sooner, but 2 opens only at 120: 0, 1, 2 is back as early, and comes first. */
    private static void firstByMarksWhileWaiting() {
        BuoyTender t = Rounds.withMarks(20, 0, 5, 0, 22, 0);
        t.depth(0, 0, 39, 39, 10);
        t.depth(22, 0, 22, 0, 5);
        t.ship(1, 10, 12, 0);
        for (int hour = 2; hour < 24; hour++) {
            t.weather(hour, 5, 0);
        }
        t.job(0, 3, 0, 1);
        t.job(1, 3, 0, 1);
        t.job(2, 3, 0, 1);
        Rounds.due("waiting makes them equal", t, 3, 145, 0, 0, 20, 1, 38, 2, 120);
        t.job(2, 3, 0, 0);
        Rounds.due("without waiting", t, 2, 46, 0, 0, 20, 1, 38);
    }

    /** 1 is shut in hours 1 and 2, and 2 till hour 3: 0 may go ahead of 1 while 1 is begun at 59, not at 60. */
    private static void firstByMarksToTheLastMinute() {
        BuoyTender t = Rounds.withMarks(1, 0, 2, 0, 3, 0);
        t.depth(1, 0, 1, 0, 200);
        t.depth(2, 0, 2, 0, 10);
        t.depth(3, 0, 3, 0, 5);
        t.ship(0, 10, 12, 0);
        for (int hour = 1; hour < 24; hour++) {
            t.weather(hour, hour < 3 ? -5 : 5, 0);
        }
        t.job(0, 59, 0, 1);
        t.job(1, 10, 0, 1);
        t.job(2, 7, 0, 1);
        Rounds.due("in the last minute", t, 3, 187, 0, 0, 0, 1, 59, 2, 180);
        t.job(0, 60, 0, 1);
        Rounds.due("a minute too late", t, 3, 187, 0, 1, 0, 0, 10, 2, 180);
    }

    /** 0, 1, 2 would be back as early as 2, 0, 1 if 1 could be begun at 51; but it is shut till 60. */
    private static void firstByMarksOfAShutHour() {
        BuoyTender t = Rounds.withMarks(20, 0, 21, 0, 1, 0);
        t.depth(0, 0, 39, 39, 10);
        t.depth(21, 0, 21, 0, 4);
        t.ship(1, 5, 12, 0);
        for (int hour = 1; hour < 24; hour++) {
            t.weather(hour, 1, 0);
        }
        t.at(0, 0, 30, 1440);
        t.job(0, 0, 0, 1);
        t.job(1, 0, 0, 1);
        t.job(2, 20, 0, 1);
        Rounds.due("shut in the first hour", t, 3, 92, 0, 2, 31, 0, 70, 1, 71);
        t.depth(21, 0, 21, 0, 5);
        Rounds.due("open in the first hour", t, 3, 92, 0, 0, 50, 1, 51, 2, 71);
    }

    private static void firstByMarksOfOtherSets() {
        BuoyTender t = Rounds.withMarks(5, 0, 5, 0, 5, 0, 5, 0);
        t.job(0, 2, 0, 3);
        t.job(1, 5, 0, 7);
        t.job(2, 3, 0, 4);
        t.job(3, 5, 0, 7);
        t.at(0, 0, 0, 15);
        Rounds.due("0 and 2 together are as 1 or 3", t, 7, 15, 0, 0, 5, 2, 7);
        t.job(0, 2, 0, 2);
        Rounds.due("1 ahead of 3", t, 7, 15, 0, 1, 5);
        t.job(0, 5, 0, 7);
        Rounds.due("0 ahead of 1", t, 7, 15, 0, 0, 5);
    }

    private static void plannedAnew() {
        BuoyTender t = Rounds.withMarks(5, 0, 6, 0);
        t.job(0, 2, 1, 3);
        Checks.due("first", t.round(1), 12);
        t.job(1, 2, 1, 3);
        Checks.due("behind job", t.round(1), 16);
        t.ship(2, 0, 12, 2);
        Checks.due("behind ship", t.round(1), 28);
        t.at(5, 0, 0, 1440);
        Checks.due("behind at", t.round(1), 8);
        t.weather(0, -1, 0);
        Checks.due("behind weather", t.round(1), 66);
        t.depth(5, 0, 6, 0, 1);
        Checks.due("behind depth", t.round(1), 8);
        t.mark(9, 9, 1);
        t.day(99);
        Checks.due("behind what doesn't count", t.round(1), 8);
    }

    private static void tenJobs() {
        BuoyTender t = new BuoyTender();
        for (int i = 0; i < 10; i++) {
            t.mark(39 - 3 * i, 0, 0);
            t.job(i, i, 100, 100);
        }
        t.ship(1, 0, 12, 1000);
        Rounds.due("all ten", t, 1000, 78 + 45, 1000, 0, 39, 1, 42, 2, 46, 3, 51, 4, 57, 5, 64, 6, 72, 7, 81, 8, 91, 9, 102);
        t.ship(1, 0, 12, 999);
        Checks.due("nine of ten", t.round(2), 9);
        Checks.due("nine of ten: back", t.round(1), 78 + 36);
        Checks.due("nine of ten: the first", t.round(100), 0);
        Checks.due("nine of ten: the last", t.round(108), 8);
        tenJobsInTheLastMinute();
    }

    private static void tenJobsInTheLastMinute() {
        BuoyTender t = new BuoyTender();
        for (int i = 0; i < 10; i++) {
            t.mark(5, 5, 0);
            t.job(i, i == 0 ? 1 : 0, 0, 1);
        }
        t.at(5, 5, 1439, 1440);
        Rounds.due("ten in the last minute", t, 10, 1440, 0,
            1, 1439, 2, 1439, 3, 1439, 4, 1439, 5, 1439, 6, 1439, 7, 1439, 8, 1439, 9, 1439, 0, 1439);
    }
}

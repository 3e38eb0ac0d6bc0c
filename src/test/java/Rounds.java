/** What the tests of rounds share. */
final class Rounds {
    private Rounds() {
    }

    /** A ship that bears all winds and carries all loads, and marks at the places given. */
    static BuoyTender withMarks(int... places) {
        BuoyTender t = new BuoyTender();
        for (int i = 0; i + 1 < places.length; i += 2) {
            t.mark(places[i], places[i + 1], 0);
        }
        t.ship(1, 0, 12, 10000);
        return t;
    }

    /** The round's weight, back, load, and then mark and beginning of each job. */
    static void due(String name, BuoyTender t, int weight, int back, int load, int... steps) {
        int many = steps.length / 2;
        Checks.due(name + ": round(0)", t.round(0), weight);
        Checks.due(name + ": round(1)", t.round(1), back);
        Checks.due(name + ": round(2)", t.round(2), many);
        Checks.due(name + ": round(3)", t.round(3), load);
        for (int i = 0; i < many; i++) {
            Checks.due(name + ": round(" + (100 + i) + ")", t.round(100 + i), steps[2 * i]);
            Checks.due(name + ": round(" + (200 + i) + ")", t.round(200 + i), steps[2 * i + 1]);
        }
        Checks.none(name + ": round(" + (100 + many) + ")", t.round(100 + many));
        Checks.none(name + ": round(" + (200 + many) + ")", t.round(200 + many));
    }
}

/** Sentences on LEAST, CHANGED, ALONE, BEST and ALL WANTS ("Terms", ==== 3) and promises 23 to 30. */
final class SearchEdges {
    private static final int NONE = Edges.NONE;
    private static final int LOW = Integer.MIN_VALUE;
    private static final int HIGH = Integer.MAX_VALUE;
    private static final String FIVE = "row 00000;".repeat(5);
    /** b lies in the only way of a, and could go aside to the south. */
    private static final String ASIDE = "row 000;row 909;raft a 1 1 1 0 0;raft b 1 1 1 1 0;";

    private final Edges e;

    SearchEdges(Edges edges) { e = edges; }

    void run() {
        e.section("Terms");
        least();
        limits();
        changed();
        alone();
        best();
        all();
        firstOfAll();
        promise23();
        promise24();
        promise25();
        promise26();
        promise27();
        promise28();
        promise29();
        promise30();
    }

    private void leastTo(RaftTown t, int h, int due, int... town) {
        Tape.town(t, town);
        e.is("least(" + h + ") to " + java.util.Arrays.toString(town), t.least(h), due);
    }

    private void least() {
        e.sentence("LEAST from the TOWN to another one in an hour (always that one): the fewest SLIDES and TURNS; "
                + "of like ones the first (ACT by ACT: the lesser RAFT, then north, east, south, west, TURN).");
        RaftTown t = e.town(FIVE + "tide 1 0;raft a 1 1 1 0 0;");
        leastTo(t, 0, 8, 4, 4, 0);
        e.found(t, 1, 1, 1, 1, 2, 2, 2, 2);
        leastTo(t, 1, NONE, 4, 4, 0);
        leastTo(t, 1, 0, 0, 0, 0);
        e.found(t);
        int[][] corners = {{0, 0, 2, 2, 1, 1, 2, 2}, {2, 2, 0, 0, 0, 0, 3, 3}, {0, 2, 2, 0, 0, 0, 1, 1}, {2, 0, 0, 2, 2, 2, 3, 3}};
        for (int[] c : corners) {
            e.lay(t, c[0], c[1], 0);
            leastTo(t, 0, 4, c[2], c[3], 0);
            e.found(t, c[4], c[5], c[6], c[7]);
        }
        t = e.town(FIVE + "raft a 3 3 0 0 2;pole 2 2;");
        leastTo(t, 0, 1, 0, 0, 0);
        e.found(t, 4);
        t = e.town("row 000;row 000;row 000;raft a 2 2 0 0 1;pole 1 1;");
        leastTo(t, 0, 1, 0, 0, 0);
        e.found(t, 0);
        t = e.town("row 000;row 000;raft a 1 1 0 1 0;raft b 1 1 0 2 1;");
        leastTo(t, 0, 2, 0, 0, 0, 2, 0, 0);
        e.found(t, 3, 10);
        t = e.town(ASIDE);
        leastTo(t, 0, 4, 2, 0, 0, 1, 0, 0);
        e.found(t, 12, 1, 1, 10);
        t = e.town("row 0000;raft a 1 1 0 0 0;raft b 1 1 0 1 0;rope a b 0 1;");
        leastTo(t, 0, NONE, 0, 0, 0, 2, 0, 0);
        e.lay(t, 0, 0, 0, 2, 0, 0);
        leastTo(t, 0, 0, 0, 0, 0, 2, 0, 0);
        leastTo(t, 0, 1, 1, 0, 0, 2, 0, 0);
        e.found(t, 1);
        t = e.town("row 000;row 000;row 000;raft a 1 2 0 0 0;pole 0 1;pole 2 2;");
        leastTo(t, 0, 1, 0, 1, 1);
        e.found(t, 4);
        leastTo(t, 0, 2, 1, 1, 1);
        e.found(t, 4, 1);
        t = e.town("row 40;raft a 1 1 2 0 0;lies a 1 0 5;");
        leastTo(t, 0, NONE, 1, 0, 0);
        e.is("AGROUND it does not go where there is WATER", t.best(60, 0), 0);
        e.is("nor alone", t.alone(0, 1, 0, 0, 0), NONE);
    }

    private void limits() {
        e.sentence("RAFTS 3 at most, CELLS 25 at most.");
        RaftTown t = e.town(FIVE + "raft a 1 2 0 0 0;raft b 2 1 0 3 4;raft c 1 1 0 2 2;lies c 4 0 9;pole 0 1;");
        leastTo(t, 0, 1, 1, 0, 0, 3, 4, 0, 2, 2, 0);
        e.is("changed", t.changed(0, 2, 0) > 0, true);
        e.is("best", t.best(4, 0), 9);
        e.is("all", t.all(), 9);
        String[] small = {"row 00000000;".repeat(3), "row 000;".repeat(8), "row 000000;".repeat(4), "row 0000;".repeat(6)};
        lastSpots();
        for (String rows : small) {
            t = e.town(rows + "raft a 1 2 0 0 0;raft b 2 1 0 1 0;raft c 2 1 0 0 2;lies c 2 2 9;");
            e.is("24 CELLS: best", t.best(4, 0), 9);
            e.is("24 CELLS: all", t.all(), 9);
        }
        String four = "row 0000;raft a 1 1 0 0 0;raft b 1 1 0 1 0;raft c 1 1 0 2 0;raft d 1 1 0 3 0;";
        String[] large = {four, "row 0000000;".repeat(4) + "raft a 1 1 0 0 0;raft b 1 1 0 1 0;", "row 0000;".repeat(7) + "raft a 1 1 0 0 0;raft b 1 1 0 1 0;",
            "row 00000000;".repeat(8) + "raft a 1 1 0 0 0;raft b 1 1 0 1 0;"};
        for (String text : large) {
            t = e.town(text);
            if (t.count(2) == 4) leastTo(t, 0, -2, 0, 0, 0, 1, 0, 0, 2, 0, 0, 3, 0, 0);
            else leastTo(t, 0, -2, 0, 0, 0, 1, 0, 0);
            e.is("changed", t.changed(0, 1, 0), -2);
            e.is("best", t.best(0, 0), -2);
            e.is("all", t.all(), -2);
            e.is("ALONE has no such limit", t.alone(0, 0, 0, 0, 0), 0);
        }
    }

    /** RAFTS of 1 by 2 have the most places in 5 by 5 CELLS, forty; the last is turned, on 3 4. */
    private void lastSpots() {
        String three = FIVE + "raft a 1 2 0 0 0;raft b 1 2 0 1 0;raft c 1 2 0 2 0;";
        for (int r = 0; r < 3; r++) {
            String name = " " + (char) ('a' + r);
            RaftTown t = e.town(three + "lies" + name + " 3 4 5;lies" + name + " 4 4 5;sun" + name + " north 3;pole " + r + " 1;");
            e.is("all()", t.all(), 13);
            allAt(t, r, 3, 4, 1);
            e.is("left()", t.left(), 0);
            // It turns to the east about its southern CELL, where the next one lies, and goes on from there.
            int[] town = {0, 0, 0, 1, 0, 0, 2, 0, 0};
            town[3 * r] = 3;
            town[3 * r + 1] = 4;
            town[3 * r + 2] = 1;
            Tape.town(t, town);
            int many = t.least(0);
            e.is("least(0) can be", many > 6 - r, true);
            e.is("best(60, 0)", t.best(60, 0), 13);
            Tape.town(t, town);
            t.least(0);
            doFound(t, Math.max(many, 0));
            e.lies(t, r, 3, 4, 1);
            e.is("alone, to where it lies", t.alone(r, 3, 4, 1, 0), 0);
        }
        RaftTown unlike = e.town(FIVE + "raft a 1 2 0 0 0;raft b 1 1 0 1 0;raft c 1 1 0 2 0;lies a 0 0 5;lies a 0 1 5;lies c 0 1 9;");
        e.is("c on 0 1, a turned on 0 0", unlike.all(), 14);
        e.is("without a POLE a stays", unlike.best(60, 0), 10);
        String[] pairs = {"a b", "a c", "b c"};
        for (String pair : pairs) {
            RaftTown t = e.town(three + "beside " + pair + " 5;apart " + pair + " 5;lies b 4 4 2;");
            e.is("WANTS that can't all be, of " + pair, t.all(), 7);
            e.is("the same in BEST", t.best(60, 0), 7);
        }
    }

    /** Does what was found, in hour 0. */
    private void doFound(RaftTown t, int many) {
        for (int i = 0; i < many; i++) e.is("ACT " + i, t.move(t.found(i) / 10, t.found(i) % 10, 0), 0);
    }

    private void changed() {
        e.sentence("CHANGED: to the TOWN in which two RAFTS lie with their corners exchanged (turned as they are).");
        RaftTown t = e.town("row 000;row 000;row 000;raft a 2 1 0 0 0;raft b 1 1 0 1 1;");
        e.lay(t, 0, 0, 1, 2, 0, 0);
        e.is("changed(0, 1, 0)", t.changed(0, 1, 0), 6);
        doFound(t, 6);
        e.lies(t, 0, 2, 0, 1);
        e.lies(t, 1, 0, 0, 0);
        t = e.town("row 00;row 00;raft a 1 1 0 0 0;raft b 1 1 0 1 0;");
        e.is("changed(0, 1, 0)", t.changed(0, 1, 0), 4);
        e.found(t, 2, 1, 13, 0);
        // A third one comes back to where it was.
        t = e.town("row 000;row 909;raft a 1 1 1 0 0;raft b 1 1 1 2 0;raft c 1 1 1 1 1;");
        int many = t.changed(0, 1, 0);
        e.is("c in the only place to pass", many, NONE);
        t = e.town("row 0000;row 9009;raft a 1 1 1 0 0;raft b 1 1 1 3 0;raft c 1 1 1 1 1;");
        many = t.changed(0, 1, 0);
        e.is("it can be", many > 0, true);
        doFound(t, many);
        e.lies(t, 0, 3, 0, 0);
        e.lies(t, 1, 0, 0, 0);
        e.lies(t, 2, 1, 1, 0);
    }

    private void alone() {
        e.sentence("ALONE: one RAFT to a CELL (its corner, turned or not), the others staying.");
        RaftTown t = e.town(ASIDE);
        e.is("b does not go aside", t.alone(0, 2, 0, 0, 0), NONE);
        e.is("b itself", t.alone(1, 1, 1, 0, 0), 1);
        e.found(t, 12);
        t = e.town("row 000;row 000;row 000;raft a 2 1 0 0 0;raft b 1 1 0 1 1;pole 0 0;");
        e.is("its corner", t.alone(0, 1, 0, 0, 0), 1);
        e.found(t, 1);
        e.is("turned", t.alone(0, 0, 0, 1, 0), 1);
        e.found(t, 4);
        e.is("around b, to be turned", t.alone(0, 0, 1, 1, 0), 2);
        e.found(t, 4, 2);
        e.is("not turned, b in the way to the south", t.alone(0, 0, 1, 0, 0), NONE);
        e.is("not turned, below b", t.alone(0, 0, 2, 0, 0), NONE);
        e.is("turned, b in the way to the east", t.alone(0, 1, 0, 1, 0), NONE);
        e.is("turned, beyond b", t.alone(0, 2, 0, 1, 0), NONE);
    }

    private void best() {
        e.sentence("BEST in k: the TOWN with the most MET that can be come to in k ACTS (of like ones by the fewest, then by the first row of ACTS).");
        RaftTown t = e.town("row 00000;raft a 1 1 0 0 0;lies a 2 0 5;lies a 4 0 9;");
        int[] met = {0, 0, 5, 5, 9, 9};
        for (int k = 0; k < met.length; k++) e.is("best(" + k + ", 0)", t.best(k, 0), met[k]);
        e.is("in 2 ACTS or fewer", t.best(3, 0), 5);
        e.found(t, 1, 1);
        t = e.town("row 000;raft a 1 1 0 1 0;lies a 1 0 5;lies a 2 0 5;");
        e.is("of like ones by the fewest", t.best(60, 0), 5);
        e.found(t);
        t = e.town("row 000;row 000;row 000;raft a 1 1 0 1 1;lies a 1 0 5;lies a 2 1 5;lies a 1 2 5;lies a 0 1 5;");
        e.is("north", t.best(60, 0), 5);
        e.found(t, 0);
        t = e.town("row 000;row 000;raft a 1 1 0 0 0;raft b 1 1 0 2 1;lies a 0 1 5;lies b 2 0 5;");
        e.is("the lesser RAFT", t.best(1, 0), 5);
        e.found(t, 2);
        e.is("both", t.best(2, 0), 10);
        e.found(t, 2, 10);
        t = e.town("row 000;tide 1 0;raft a 1 1 1 0 0;lies a 1 0 5;");
        e.is("in hour 1 it can't", t.best(60, 1), 0);
        e.found(t);
        bestOfPairs();
    }

    /** WANTS of each two of three RAFTS, and of all three, in BEST and ALL WANTS. */
    private void bestOfPairs() {
        String three = "row 00000;raft a 1 1 0 0 0;raft b 1 1 0 2 0;raft c 1 1 0 4 0;";
        String[] wants = {"beside a b 9;", "beside b a 9;", "beside b c 9;", "beside c b 9;"};
        int[] found = {1, 1, 11, 11};
        for (int i = 0; i < wants.length; i++) {
            RaftTown t = e.town(three + wants[i]);
            e.is("best(0, 0) of " + wants[i], t.best(0, 0), 0);
            e.is("best(1, 0) of " + wants[i], t.best(1, 0), 9);
            e.found(t, found[i]);
            e.is("all() of " + wants[i], t.all(), 9);
        }
        RaftTown far = e.town(three + "beside a c 9;");
        e.is("b is between", far.best(60, 0), 0);
        e.is("all()", far.all(), 9);
        // Side by side, each is in the way of the other's sun.
        String close = "row 000;raft a 1 1 0 0 0;raft b 1 1 0 1 0;raft c 1 1 0 2 0;";
        String[] suns = {"sun a east 5;", "sun b west 5;", "sun b east 5;", "sun c west 5;"};
        for (String sun : suns) {
            RaftTown t = e.town(close.replace("row 000;", "row 000;row 000;") + sun);
            e.is("best(0, 0) of " + sun, t.best(0, 0), 0);
            e.is("best(1, 0) of " + sun, t.best(1, 0), 5);
            e.is("all() of " + sun, t.all(), 5);
            t = e.town(close + "rope a b 0 1;rope b c 0 1;rope a c 1 1;" + sun);
            e.is("best(60, 0) of " + sun, t.best(60, 0), 0);
        }
        RaftTown full = e.town(close + "sun a east 1;sun a west 2;sun b west 4;sun b east 8;sun c west 16;sun c east 32;apart a b 64;apart b c 64;");
        e.is("b, a, c from the west on", full.all(), 4 + 32 + 64);
    }

    private void all() {
        e.sentence("ALL WANTS: the most MET of all TOWNS whatsoever (RAFTS in the LAGOON, none on another one, all turned or not; "
                + "no two that a rope ties with more than its GAP between them; WATER of no matter; RAFTS and CELLS as for LEAST)");
        e.is("in the LAGOON", e.town("row 000;row 000;raft a 2 2 0 0 0;lies a 0 0 5;lies a 2 1 4;").all(), 5);
        e.is("none on another one", e.town("row 00;raft a 1 1 0 0 0;raft b 1 1 0 1 0;lies a 1 0 5;lies b 1 0 4;").all(), 5);
        e.is("three", e.town("row 00;row 00;raft a 1 1 0 0 0;raft b 1 1 0 1 0;raft c 1 1 0 0 1;lies a 1 0 5;lies b 1 0 4;lies c 1 0 3;lies c 1 1 1;").all(), 6);
        e.is("turned", e.town("row 00;row 00;raft a 1 2 0 0 0;lies a 0 1 5;lies a 1 1 4;").all(), 9);
        RaftTown rope = e.town("row 00000;raft a 1 1 0 0 0;raft b 1 1 0 1 0;rope b a 2 1;lies a 0 0 5;lies b 4 0 5;lies b 3 0 2;");
        e.is("as much as its GAP", rope.all(), 7);
        e.is("b", rope.allAt(1, 0), 3);
        rope = e.town("row 0000;raft a 1 1 0 0 0;raft b 1 1 0 1 0;raft c 1 1 0 2 0;rope b c 0 1;lies b 0 0 5;lies c 3 0 5;lies c 1 0 1;");
        e.is("a rope of the second and the third", rope.all(), 6);
        rope = e.town("row 0000;raft a 1 1 0 0 0;raft b 1 1 0 2 0;rope a b 2 1;beside a b 5;lies a 2 0 3;lies a 3 0 3;");
        e.is("less than its GAP", rope.all(), 8);
        rope = e.town("row 0000;raft a 1 1 0 0 0;raft b 1 1 0 2 0;rope a b 1 1;beside a b 5;");
        e.is("less than its GAP, in BEST", rope.best(1, 0), 5);
        e.is("few places of the first, more of the second", e.town("row 000;row 000;row 000;raft a 3 2 0 0 0;raft b 1 1 0 0 2;lies b 2 2 5;").all(), 5);
        e.is("few places of the second, more of the third", e.town("row 000;row 000;row 000;raft a 1 1 0 0 2;raft b 3 2 0 0 0;raft c 1 1 0 1 2;lies c 2 2 5;").all(), 5);
        RaftTown dry = e.town("row 09;tide 0 0;raft a 1 1 9 0 0;lies a 1 0 5;");
        e.is("WATER of no matter", dry.all(), 5);
        RaftTown far = e.town("row 000;row 909;row 000;raft a 3 1 1 0 0;lies a 0 2 5;");
        e.is("whether it can be come to is of no matter", far.all(), 5);
        e.is("no WANTS", e.town("row 0;raft a 1 1 0 0 0;").all(), 0);
        e.is("four RAFTS", e.town("row 0000;raft a 1 1 0 0 0;raft b 1 1 0 1 0;raft c 1 1 0 2 0;raft d 1 1 0 3 0;").all(), -2);
    }

    private void firstOfAll() {
        e.sentence("of like ones the first (RAFT by RAFT: not turned, then the lesser Y, then X).");
        RaftTown t = e.town("row 000;row 000;row 000;raft a 1 2 0 0 0;lies a 0 0 5;lies a 1 0 5;lies a 2 1 5;lies a 2 2 5;");
        e.is("all()", t.all(), 10);
        allAt(t, 0, 2, 1, 0);
        t = e.town("row 000;row 000;raft a 1 1 0 0 0;lies a 2 0 5;lies a 0 1 5;");
        e.is("all()", t.all(), 5);
        allAt(t, 0, 2, 0, 0);
        t = e.town("row 000;raft a 1 1 0 0 0;lies a 2 0 5;lies a 1 0 5;");
        e.is("all()", t.all(), 5);
        allAt(t, 0, 1, 0, 0);
        t = e.town("row 000;row 000;raft a 1 1 0 2 1;raft b 1 1 0 1 1;raft c 1 1 0 0 1;apart a b 5;");
        e.is("all()", t.all(), 5);
        allAt(t, 0, 0, 0, 0);
        allAt(t, 1, 2, 0, 0);
        allAt(t, 2, 1, 0, 0);
        t = e.town("row 00;row 00;raft a 2 1 0 0 1;raft b 1 1 0 0 0;");
        e.is("all()", t.all(), 0);
        allAt(t, 0, 0, 0, 0);
        allAt(t, 1, 0, 1, 0);
    }

    private void allAt(RaftTown t, int r, int x, int y, int turned) {
        e.is("allAt(" + r + ", 0)", t.allAt(r, 0), x);
        e.is("allAt(" + r + ", 1)", t.allAt(r, 1), y);
        e.is("allAt(" + r + ", 2)", t.allAt(r, 2), turned);
    }

    private void promise23() {
        e.section("Promise 23: least");
        RaftTown t = e.town("row 000;row 080;tide 23 9;raft a 1 1 1 0 0;raft b 2 1 0 0 1;pole 1 1;");
        e.sentence("LEAST in hour h to the TOWN of the tape (as for lay()): how many ACTS");
        leastTo(t, 0, 0, 0, 0, 0, 0, 1, 0);
        leastTo(t, 0, 2, 2, 0, 1, 0, 1, 0);
        e.found(t, 1, 1);
        leastTo(t, 23, 2, 2, 0, 1, 0, 1, 0);
        leastTo(t, 23, 6, 1, 1, 0, 0, 0, 1);
        e.found(t, 1, 1, 2, 14, 13, 3);
        e.lies(t, 0, 0, 0, 0);

        e.sentence("NONE: it can't be");
        leastTo(t, 0, NONE, 1, 1, 0, 0, 0, 1);
        RaftTown row = e.town("row 000;raft a 1 1 0 0 0;raft b 1 1 0 2 0;");
        leastTo(row, 0, NONE, 2, 0, 0, 0, 0, 0);
        RaftTown unturned = e.town("row 00;row 00;raft a 2 1 0 0 0;");
        leastTo(unturned, 0, NONE, 0, 0, 1);

        e.sentence("-2: not as told.");
        leastTo(t, -1, -2, 0, 0, 0, 0, 1, 0);
        leastTo(t, 24, -2, 0, 0, 0, 0, 1, 0);
        leastTo(t, LOW, -2, 0, 0, 0, 0, 1, 0);
        leastTo(t, HIGH, -2, 0, 0, 0, 0, 1, 0);
        int[][] nots = {{}, {0, 0, 0}, {0, 0, 0, 0, 1}, {0, 0, 0, 0, 1, 0, 0}, {0, 0, 2, 0, 1, 0}, {0, 0, 0, 0, 1, 255}, {3, 0, 0, 0, 1, 0}, {0, 2, 0, 0, 1, 0},
            {0, 0, 0, 2, 1, 0}, {0, 0, 0, 0, 1, 1}, {0, 0, 0, 0, 0, 0}, {1, 1, 0, 0, 1, 0}};
        for (int[] not : nots) leastTo(t, 0, -2, not);
        e.lies(t, 0, 0, 0, 0);
    }

    private void promise24() {
        e.section("Promise 24: changed");
        RaftTown t = e.town("row 000;row 000;tide 1 0;raft a 1 1 1 0 0;raft b 1 1 1 1 0;");
        e.sentence("CHANGED of RAFTS a, b in hour h, likewise");
        e.is("changed(0, 1, 0)", t.changed(0, 1, 0), 4);
        e.is("changed(1, 0, 23)", t.changed(1, 0, 23), 4);
        e.is("NONE: it can't be", t.changed(0, 1, 1), NONE);
        e.lies(t, 0, 0, 0, 0);
        int[][] nots = {{0, 0, 0}, {1, 1, 0}, {0, 2, 0}, {2, 0, 0}, {-1, 0, 0}, {0, -1, 0}, {0, 1, -1}, {0, 1, 24}, {LOW, 0, 0}, {0, HIGH, 0}, {0, 1, HIGH}};
        for (int[] n : nots) e.is("changed(" + n[0] + ", " + n[1] + ", " + n[2] + ")", t.changed(n[0], n[1], n[2]), -2);

        e.sentence("-2, too, where they would lie beyond the LAGOON or on another one then.");
        t = e.town("row 000;row 000;raft a 2 1 0 0 0;raft b 1 1 0 2 1;");
        e.is("a beyond, to the east", t.changed(0, 1, 0), -2);
        e.is("a beyond, to the east", t.changed(1, 0, 0), -2);
        t = e.town("row 000;row 000;row 000;raft a 1 2 0 0 0;raft b 1 1 0 2 2;");
        e.is("a beyond, to the south", t.changed(0, 1, 0), -2);
        t = e.town("row 0000;row 0000;raft a 2 1 0 0 0;raft b 1 1 0 1 1;raft c 1 1 0 2 1;");
        e.is("a on c", t.changed(0, 1, 0), -2);
        e.is("b and c", t.changed(1, 2, 0) > 0, true);
        t = e.town("row 000;row 000;raft a 2 1 0 0 0;raft b 1 2 0 2 0;");
        e.is("a beyond", t.changed(0, 1, 0), -2);
        t = e.town("row 0000;row 0000;raft a 3 1 0 0 0;raft b 1 1 0 0 1;");
        e.is("one above the other", t.changed(0, 1, 0) > 0, true);
        t = e.town("row 0000;row 0000;row 0000;raft a 2 2 0 0 0;raft b 1 1 0 1 2;");
        e.is("a beyond, from Y 2", t.changed(0, 1, 0), -2);
        t = e.town("row 0000;row 0000;row 0000;raft a 3 1 0 0 0;raft b 1 1 0 3 0;");
        e.is("a beyond, from X 3", t.changed(0, 1, 0), -2);
        t = e.town("row 00000;row 00000;raft a 1 1 0 0 0;raft b 3 1 0 1 0;");
        e.is("b on a", t.changed(0, 1, 0), -2);
    }

    private void promise25() {
        e.section("Promise 25: alone");
        RaftTown t = e.town("row 0090;row 0000;row 0000;tide 23 0;raft a 1 1 1 0 0;raft b 1 2 1 1 0;pole 1 1;pole 0 0;");
        e.sentence("ALONE, RAFT r to a CELL, turned (0, 1; 0 or 1 alike of as wide as high ones) in hour h: how many ACTS");
        e.is("where it is", t.alone(0, 0, 0, 0, 0), 0);
        e.is("where it is, 1 alike", t.alone(0, 0, 0, 1, 0), 0);
        e.is("where it is, aground", t.alone(0, 0, 0, 0, 23), 0);
        e.is("to the last CELL", t.alone(0, 3, 2, 1, 0), 5);
        e.found(t, 2, 2, 1, 1, 1);
        RaftTown large = e.town("row 00000000;".repeat(8) + "raft a 1 1 0 0 0;raft b 1 2 0 7 0;pole 0 0;pole 6 7;");
        e.is("over all the LAGOON", large.alone(0, 7, 7, 0, 0), 14);
        e.found(large, 1, 1, 1, 1, 1, 1, 2, 2, 1, 2, 2, 2, 2, 2);
        e.lay(large, 7, 7, 0, 7, 0, 0);
        e.is("and back, to the first CELL", large.alone(0, 0, 0, 0, 0), 14);
        e.is("turned, about the second POLE", large.alone(1, 6, 7, 1, 0), NONE);
        e.lay(large, 1, 0, 0, 7, 0, 0);
        e.is("by the first CELL", large.alone(0, 0, 0, 0, 0), 1);
        e.found(large, 3);
        RaftTown snake = e.town("row 00000000;row 99999990;row 00000000;row 09999999;row 00000000;row 99999990;row 00000000;row 09999999;raft a 1 1 1 0 0;");
        e.is("the longest way", snake.alone(0, 0, 7, 0, 0), 35);
        e.is("b turned", t.alone(1, 1, 1, 1, 0), 1);
        e.found(t, 14);
        e.is("b not turned", t.alone(1, 1, 1, 0, 0), 1);
        e.found(t, 12);
        e.lies(t, 0, 0, 0, 0);

        e.sentence("NONE: it can't be");
        e.is("on b", t.alone(0, 1, 0, 0, 0), NONE);
        e.is("on b", t.alone(0, 1, 1, 0, 0), NONE);
        e.is("on GROUND 9", t.alone(0, 2, 0, 0, 0), NONE);
        e.is("in hour 23", t.alone(0, 0, 1, 0, 23), NONE);
        e.is("on a", t.alone(1, 0, 0, 0, 0), NONE);

        e.sentence("-2: no such ones, beyond the LAGOON.");
        int[][] nots = {{-1, 0, 0, 0, 0}, {2, 0, 0, 0, 0}, {0, -1, 0, 0, 0}, {0, 4, 0, 0, 0}, {0, 0, -1, 0, 0}, {0, 0, 3, 0, 0}, {0, 0, 0, -1, 0}, {0, 0, 0, 2, 0},
            {0, 0, 0, 0, -1}, {0, 0, 0, 0, 24}, {1, 1, 2, 0, 0}, {1, 3, 0, 1, 0}, {1, 3, 2, 0, 0}, {LOW, 0, 0, 0, 0}, {0, HIGH, 0, 0, 0}, {0, 0, LOW, 0, 0},
            {0, 0, 0, HIGH, 0}, {0, 0, 0, 0, HIGH}, {8, 0, 0, 0, 0}, {0, 8, 0, 0, 0}};
        for (int[] n : nots) {
            e.is("alone(" + n[0] + ", " + n[1] + ", " + n[2] + ", " + n[3] + ", " + n[4] + ")", t.alone(n[0], n[1], n[2], n[3], n[4]), -2);
        }
    }

    private void promise26() {
        e.section("Promise 26: best");
        RaftTown t = e.town("row 00000;row 99990;row 00000;row 09999;row 00000;tide 23 0;raft a 1 1 1 0 0;lies a 0 0 1;lies a 3 4 50;lies a 4 4 70;");
        e.sentence("BEST in k ACTS (0 to 60) in hour h: MET");
        e.is("best(0, 0)", t.best(0, 0), 1);
        e.is("best(14, 0)", t.best(14, 0), 1);
        e.is("best(15, 0)", t.best(15, 0), 50);
        e.is("best(16, 0)", t.best(16, 0), 70);
        e.is("best(60, 22)", t.best(60, 22), 70);
        RaftTown far = e.town(LONG_WAY + "lies b 5 2 50;lies c 4 2 50;");
        e.is("one ACT too few", far.best(45, 0) < 100, true);
        e.is("b and c changed", far.best(46, 0), 100);
        far = e.town(LONG_WAY + "lies a 5 2 50;lies b 4 2 50;lies c 3 2 50;");
        e.is("60 are too few for a and c", far.best(60, 0) < 150, true);
        e.is("which would be", far.all(), 150);
        e.is("best(60, 23)", t.best(60, 23), 1);
        e.lies(t, 0, 0, 0, 0);

        e.sentence("-2: not as told.");
        int[][] nots = {{-1, 0}, {61, 0}, {0, -1}, {0, 24}, {LOW, 0}, {HIGH, 0}, {0, LOW}, {0, HIGH}};
        for (int[] n : nots) e.is("best(" + n[0] + ", " + n[1] + ")", t.best(n[0], n[1]), -2);
    }

    private void promise27() {
        e.section("Promise 27: found");
        RaftTown t = e.town("row 000;row 000;raft a 1 1 0 0 0;raft b 1 1 0 2 1;pole 2 1;lies b 2 0 5;");
        e.sentence("ACT i by the latest least(), changed(), alone() or best() that was 0 or above: 10 times the RAFT and how");
        leastTo(t, 0, 2, 0, 1, 0, 1, 1, 0);
        e.found(t, 2, 13);
        e.is("alone", t.alone(1, 1, 0, 0, 0), 2);
        e.found(t, 10, 13);
        e.is("best", t.best(9, 0), 5);
        e.found(t, 10);
        e.is("changed", t.changed(0, 1, 0), 6);
        e.is("the first of changed", t.found(0), 1);
        leastTo(t, 24, -2, 0, 0, 0, 2, 1, 0);
        e.is("changed", t.changed(0, 0, 0), -2);
        e.is("alone", t.alone(0, 9, 0, 0, 0), -2);
        e.is("alone", t.alone(0, 2, 1, 0, 0), NONE);
        e.is("best", t.best(61, 0), -2);
        e.is("those that were below 0 are none", t.found(0), 1);
        e.is("those that were below 0 are none", t.found(5) >= 0, true);
        t.all();
        e.tellLagoon(t, "row 0;");
        e.is("it stays in another LAGOON", t.found(0), 1);
        longest();
        RaftTown eight = e.town("row 00000000;".repeat(3) + "raft a 1 1 0 0 2;raft b 1 1 0 1 2;raft c 1 1 0 2 2;raft d 1 1 0 3 2;raft f 1 1 0 4 2;"
                + "raft g 1 1 0 5 2;raft h 1 1 0 6 2;raft i 1 2 0 7 0;pole 7 0;");
        e.is("RAFT 7", eight.alone(7, 6, 0, 1, 0), 1);
        e.found(eight, 74);
        oneByOne();

        e.sentence("NONE: there is none such, or ahead of any.");
        for (int i : new int[] {6, 64, -1, LOW, HIGH}) e.is("found(" + i + ")", t.found(i), NONE);
        e.is("best", t.best(0, 0), 0);
        e.is("of no ACTS", t.found(0), NONE);
        RaftTown fresh = e.town("row 0;raft a 1 1 0 0 0;");
        e.is("ahead of any", fresh.found(0), NONE);
        fresh.changed(0, 0, 0);
        e.is("behind -2", fresh.found(0), NONE);
    }

    /**
     * The way to where they can pass one another, on 1 0, is long. That a and c change places in 76 ACTS, b and c in 46,
     * was not counted by hand: PlainModel answers so, too.
     */
    private static final String LONG_WAY = "row 00000000;row 90999990;row 90900000;raft a 1 1 1 3 2;raft b 1 1 1 4 2;raft c 1 1 1 5 2;";

    private void longest() {
        RaftTown t = e.town(LONG_WAY);
        int many = t.changed(0, 2, 0);
        e.is("more ACTS than best() or a PLAN may have", many, 76);
        doFound(t, many);
        e.lies(t, 0, 5, 2, 0);
        e.lies(t, 1, 4, 2, 0);
        e.lies(t, 2, 3, 2, 0);
        e.is("found(76)", t.found(76), NONE);
    }

    /** Nothing of a former search is in a later one of the same object. */
    private void oneByOne() {
        RaftTown t = e.town(FIVE + "raft a 1 2 0 0 0;raft b 1 2 0 1 0;raft c 1 2 0 2 0;lies a 4 4 9;sun c east 3;pole 0 1;");
        for (int i = 0; i < 2; i++) {
            e.is("best(60, 0)", t.best(60, 0), 12);
            e.is("best(0, 0)", t.best(0, 0), 3);
            e.found(t);
            e.is("all()", t.all(), 12);
        }
        e.is("alone", t.alone(0, 4, 3, 0, 0), 7);
        e.tellLagoon(t, "row 090;row 090;raft a 1 1 1 0 0;lies a 2 0 9;lies a 0 1 5;");
        e.is("best(0, 0)", t.best(0, 0), 0);
        e.is("best(60, 0)", t.best(60, 0), 5);
        e.found(t, 2);
        e.is("all()", t.all(), 9);
        e.is("all() left", t.left(), 2);
        leastTo(t, 0, NONE, 2, 0, 0);
        e.is("alone", t.alone(0, 2, 1, 0, 0), NONE);
        leastTo(t, 0, 1, 0, 1, 0);
        byTheHour();
        e.tellLagoon(t, "row 0000;row 0000;raft a 1 1 0 0 0;raft b 2 1 0 2 0;lies b 0 1 9;lies a 3 1 9;");
        e.is("all()", t.all(), 18);
        e.is("best(60, 0)", t.best(60, 0), 18);
        e.is("best(1, 0)", t.best(1, 0), 0);
        e.is("changed", t.changed(0, 1, 0), 6);
    }

    /** In hour 1 a can come over 1 0, in hour 0 it can't: what hour 1 found is nothing to hour 0. */
    private void byTheHour() {
        RaftTown t = e.town("row 0400;row 0999;row 0999;tide 1 9;raft a 1 1 2 0 0;lies a 2 0 9;lies a 3 2 1;");
        leastTo(t, 1, 3, 3, 0, 0);
        leastTo(t, 0, NONE, 3, 0, 0);
        e.is("best(60, 1)", t.best(60, 1), 9);
        e.is("best(60, 0)", t.best(60, 0), 0);
        e.is("alone in hour 1", t.alone(0, 3, 0, 0, 1), 3);
        e.is("alone in hour 0", t.alone(0, 3, 0, 0, 0), NONE);
    }

    private void promise28() {
        e.section("Promise 28: all");
        e.sentence("ALL WANTS");
        RaftTown t = e.town("row 000;raft a 1 1 0 0 0;raft b 1 1 0 1 0;apart a b 8;beside a b 5;");
        e.is("all()", t.all(), 8);
        e.is("the TOWN stays", t.wants(0), 5);
        e.is("ten of 99", e.town("row 00;raft a 1 1 0 0 0;" + "lies a 1 0 99;".repeat(10)).all(), 990);
        e.is("of no RAFTS", e.town("row 0;").all(), 0);

        e.sentence("-2: not as told.");
        e.tellLagoon(t, "row 0000;raft a 1 1 0 0 0;raft b 1 1 0 1 0;raft c 1 1 0 2 0;raft d 1 1 0 3 0;");
        e.is("four RAFTS", t.all(), -2);
        e.tellLagoon(t, "row 0000;".repeat(7));
        e.is("28 CELLS", t.all(), -2);
    }

    private void promise29() {
        e.section("Promise 29: allAt");
        e.sentence("Of RAFT r in the TOWN of the latest all() that was 0 or above: 0 X, 1 Y, 2 turned.");
        RaftTown t = e.town("row 000;row 000;row 000;raft a 1 2 0 0 0;raft b 1 1 0 2 2;lies a 1 2 5;lies a 2 2 5;lies b 0 0 3;");
        e.is("all()", t.all(), 13);
        allAt(t, 0, 1, 2, 1);
        allAt(t, 1, 0, 0, 0);
        e.tellLagoon(t, "row 0000;raft a 1 1 0 0 0;raft b 1 1 0 1 0;raft c 1 1 0 2 0;raft d 1 1 0 3 0;");
        e.is("all()", t.all(), -2);
        allAt(t, 0, 1, 2, 1);
        allAt(t, 1, 0, 0, 0);

        e.sentence("NONE: no such ones of that LAGOON, or ahead of any.");
        int[][] none = {{2, 0}, {3, 0}, {-1, 0}, {0, 3}, {0, -1}, {LOW, 0}, {HIGH, 0}, {0, LOW}, {0, HIGH}};
        for (int[] n : none) e.is("allAt(" + n[0] + ", " + n[1] + ")", t.allAt(n[0], n[1]), NONE);
        t.lagoon();
        t.all();
        e.is("of no RAFTS", t.allAt(0, 0), NONE);
        RaftTown fresh = e.town("row 0000;raft a 1 1 0 0 0;raft b 1 1 0 1 0;raft c 1 1 0 2 0;raft d 1 1 0 3 0;");
        e.is("ahead of any", fresh.allAt(0, 0), NONE);
        fresh.all();
        e.is("behind -2", fresh.allAt(0, 0), NONE);
    }

    private void promise30() {
        e.section("Promise 30: left");
        e.sentence("WANTS that are not so in that TOWN, as bits");
        RaftTown t = e.town("row 00;raft a 1 1 0 0 0;lies a 0 0 1;lies a 1 0 5;lies a 0 0 2;sun a east 1;");
        t.all();
        e.is("left()", t.left(), 5);
        t.move(0, 1, 0);
        e.is("not of the TOWN of now", t.left(), 5);
        t = e.town("row 00;raft a 1 1 0 0 0;" + "lies a 0 0 1;".repeat(9) + "lies a 1 0 1;");
        t.all();
        e.is("WANT 9", t.left(), 512);
        e.tellLagoon(t, "row 0000;".repeat(7));
        e.is("all()", t.all(), -2);
        e.is("it stays", t.left(), 512);
        e.tellLagoon(t, "row 0;");
        t.all();
        e.is("no WANTS", t.left(), 0);

        e.sentence("NONE ahead of any.");
        RaftTown fresh = e.town("row 0000;".repeat(7));
        e.is("left()", fresh.left(), NONE);
        fresh.all();
        e.is("behind -2", fresh.left(), NONE);
    }
}

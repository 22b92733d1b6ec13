/** Sentences on TOWNS: WATER, SLIDES, TURNS, WANTS ("Terms", ==== 2) and promises 6 to 15 and 31. */
final class TownEdges {
    private static final int NONE = Edges.NONE;
    private static final int EVERY_HOUR = Edges.EVERY_HOUR;
    private static final int LOW = Integer.MIN_VALUE;
    private static final int HIGH = Integer.MAX_VALUE;

    private final Edges e;

    TownEdges(Edges edges) { e = edges; }

    void run() {
        e.section("Terms");
        waters();
        towns();
        groundings();
        gaps();
        slides();
        turns();
        why();
        tooFar();
        wants();
        suns();
        promise6();
        promise7();
        promise8();
        promise9();
        promises10to12();
        promise13();
        promise14();
        promise15();
        promise31();
    }

    private void waters() {
        e.sentence("==== 2. WATER of a CELL in an hour: LEVEL less GROUND, 0 at least.");
        RaftTown t = e.town("row 0459;tide 1 9;tide 2 0;tide 3 4;");
        int[][] due = {{5, 1, 0, 0}, {9, 5, 4, 0}, {0, 0, 0, 0}, {4, 0, 0, 0}};
        for (int h = 0; h < 4; h++) for (int x = 0; x < 4; x++) e.is("water(" + x + ", 0, " + h + ")", t.water(x, 0, h), due[h][x]);
    }

    private void towns() {
        e.sentence("A TOWN: where each RAFT lies (its corner), and whether it is turned (HIGH wide and WIDE high).");
        RaftTown t = e.town("row 0000;row 0000;row 0000;row 0000;raft a 3 1 0 0 0;raft b 1 2 0 3 1;");
        e.lay(t, 0, 1, 1, 1, 3, 1);
        e.lies(t, 0, 0, 1, 1);
        e.is("a lies so wide", t.raft(0, 2), 1);
        e.is("a lies so high", t.raft(0, 3), 3);
        e.is("b lies so wide", t.raft(1, 2), 2);
        e.is("b lies so high", t.raft(1, 3), 1);
        int[][] at = {{NONE, NONE, NONE, NONE}, {0, NONE, NONE, NONE}, {0, NONE, NONE, NONE}, {0, 1, 1, NONE}};
        for (int y = 0; y < 4; y++) for (int x = 0; x < 4; x++) e.is("at(" + x + ", " + y + ")", t.at(x, y), at[y][x]);
    }

    private void groundings() {
        e.sentence("It FLOATS in an hour, if WATER of all its CELLS is DRAFT or more, else it is AGROUND");
        // WATER 3 and 2 in most hours, 2 and 1 in hour 1.
        RaftTown t = e.town("row 23;row 23;row 00;tide 1 4;raft a 2 1 2 0 0;raft b 2 1 1 0 1;raft c 1 1 5 0 2;raft d 1 1 6 1 2;");
        e.is("aground(0): 2 is enough for a, 5 for c, not for d", t.aground(0), 8);
        e.is("aground(1)", t.aground(1), 1 + 4 + 8);
        e.is("floats(0)", t.floats(0), EVERY_HOUR & ~2);
        e.is("floats(1)", t.floats(1), EVERY_HOUR);
        e.is("floats(3)", t.floats(3), 0);
        RaftTown dry = e.town("row 99;tide 0 0;tide 1 9;raft a 1 1 0 0 0;raft b 1 1 1 1 0;");
        e.is("DRAFT 0 FLOATS on no WATER", dry.floats(0), EVERY_HOUR);
        e.is("DRAFT 1 does not", dry.floats(1), 0);
        RaftTown last = e.town("row 000;row 000;row 005;raft a 3 3 1 0 0;");
        e.is("one CELL of nine is enough to sit on", last.aground(0), 1);
        RaftTown deepest = e.town("row 01;tide 7 9;raft a 1 1 9 0 0;raft b 1 1 9 1 0;");
        e.is("WATER 9 for DRAFT 9", deepest.floats(0), 1 << 7);
        e.is("WATER 8 for DRAFT 9", deepest.floats(1), 0);

        e.sentence("it BREAKS then, if GROUNDS of two of its CELLS are more than 1 apart.");
        t = e.town("row 57;row 56;row 77;row 45;raft a 2 1 1 0 0;raft b 2 1 1 0 1;raft c 2 1 1 0 2;raft d 1 1 9 0 3;raft f 1 1 1 1 3;tide 1 9;");
        e.is("aground(0)", t.aground(0), 31);
        e.is("breaks(0): 5 and 7 do, 5 and 6 do not, 7 and 7 not, nor one CELL", t.breaks(0), 1);
        e.is("aground(1)", t.aground(1), 8);
        e.is("what FLOATS does not break", t.breaks(1), 0);
        RaftTown far = e.town("row 678;row 999;raft a 3 1 1 0 0;raft b 3 1 1 0 1;");
        e.is("6, 7, 8: the first and the last", far.breaks(0), 1);
        RaftTown corners = e.town("row 80;row 99;tide 0 0;raft a 1 1 1 1 0;raft b 2 1 1 0 1;");
        e.is("only its own CELLS count", corners.breaks(0), 0);
        RaftTown ends = e.town("row 09;tide 0 0;raft a 2 1 1 0 0;");
        e.is("0 and 9", ends.breaks(0), 1);
        for (int low = 0; low < 10; low++) for (int high = low; high < 10; high++) {
            RaftTown two = e.town("row " + high + low + ";tide 0 0;raft a 2 1 1 0 0;");
            e.is(low + " and " + high, two.breaks(0), high - low > 1 ? 1 : 0);
        }
    }

    private void gaps() {
        e.sentence("GAP of two RAFTS: how many columns lie between them, or rows, if those are more (0: neither).");
        RaftTown t = e.town("row 00000000;".repeat(8) + "raft a 2 2 0 3 3;raft b 1 1 0 5 5;raft c 1 1 0 5 4;raft d 1 1 0 6 0;raft f 1 1 0 0 7;raft g 3 1 0 0 0;");
        e.is("side by side", t.gap(0, 2), 0);
        e.is("corner to corner", t.gap(0, 1), 0);
        e.is("1 column, 2 rows", t.gap(0, 3), 2);
        e.is("2 columns, 2 rows", t.gap(0, 4), 2);
        e.is("no column, 2 rows", t.gap(0, 5), 2);
        e.is("5 columns, 6 rows", t.gap(3, 4), 6);
        e.is("3 columns, no row", t.gap(5, 3), 3);
        e.is("6 rows, no column", t.gap(5, 4), 6);
        e.is("4 columns, 1 row", t.gap(4, 1), 4);
    }

    private void slides() {
        e.sentence("A SLIDE of a RAFT to a SIDE: one CELL.");
        RaftTown t = e.town("row 00000;row 00000;row 00000;row 00000;raft a 3 2 1 1 1;");
        int[][] after = {{1, 0}, {2, 0}, {2, 1}, {1, 1}};
        for (int side = 0; side < 4; side++) {
            e.is("move(0, " + side + ", 0)", t.move(0, side, 0), 0);
            e.lies(t, 0, after[side][0], after[side][1], 0);
        }
        RaftTown turned = e.town("row 000;row 000;row 000;raft a 1 2 0 0 0;");
        e.lay(turned, 0, 0, 1);
        e.is("it stays turned", turned.move(0, 2, 0), 0);
        e.lies(turned, 0, 0, 1, 1);
    }

    private static final String FIVE = "row 00000;".repeat(5);

    private void turns() {
        e.sentence("A TURN: about the first POLE under it, so that what lay to the north of the POLE lies to the east of it, "
                + "what lay to the east to the south, and so on.");
        // It lies to the north of the POLE, then to the east, south, west, and north again.
        RaftTown t = e.town(FIVE + "raft a 1 3 0 2 0;pole 2 2;");
        int[][] spots = {{2, 2, 1}, {2, 2, 0}, {0, 2, 1}, {2, 0, 0}};
        for (int[] s : spots) {
            e.is("turn", t.move(0, 4, 0), 0);
            e.lies(t, 0, s[0], s[1], s[2]);
        }
        // 2 by 3, the POLE under its second row to the west: two CELLS north of it come to the east of it.
        t = e.town(FIVE + "raft a 2 3 0 2 1;pole 2 2;");
        int[][] about = {{1, 2, 1}, {1, 1, 0}, {1, 1, 1}, {2, 1, 0}};
        for (int[] s : about) {
            e.is("turn", t.move(0, 4, 0), 0);
            e.lies(t, 0, s[0], s[1], s[2]);
        }
        t = e.town(FIVE + "raft a 2 2 0 1 1;pole 4 4;pole 2 2;pole 1 1;");
        e.is("about POLE 1, the first under it", t.move(0, 4, 0), 0);
        e.lies(t, 0, 2, 1, 0);
        t = e.town(FIVE + "raft a 2 2 0 1 1;pole 4 4;pole 1 1;pole 2 2;");
        e.is("the other way round", t.move(0, 4, 0), 0);
        e.lies(t, 0, 0, 1, 0);
        t = e.town(FIVE + "raft a 3 3 0 1 1;pole 2 2;");
        e.is("about its middle", t.move(0, 4, 0), 0);
        e.lies(t, 0, 1, 1, 0);
        t = e.town("row 0;raft a 1 1 1 0 0;pole 0 0;");
        e.is("one CELL", t.move(0, 4, 0), 0);
        e.lies(t, 0, 0, 0, 0);
    }

    private void why() {
        e.sentence("WRONG in an hour, the least: 1 it is AGROUND");
        // In hour 1 nothing with a DRAFT FLOATS; a is at the edge, beside b, without a POLE, and its rope is at its end.
        RaftTown t = e.town("row 0000;row 0000;tide 1 0;raft a 1 1 1 0 0;raft b 1 1 0 1 0;raft c 1 1 0 0 1;rope a c 0 1;");
        e.is("ahead of 2", t.move(0, 4, 1), 1);
        e.is("ahead of 3", t.move(0, 0, 1), 1);
        e.is("ahead of 4", t.move(0, 1, 1), 1);
        e.is("b is not AGROUND", t.move(1, 1, 1), 0);
        e.is("ahead of 5", t.move(0, 1, 1), 1);
        e.is("in hour 0 it is not", t.move(0, 1, 0), 0);
        RaftTown tied = e.town("row 000;tide 1 0;raft a 1 1 1 0 0;raft b 1 1 0 1 0;rope a b 0 1;");
        e.lay(tied, 1, 0, 0, 0, 0, 0);
        e.is("ahead of 5 and 6", tied.move(0, 1, 1), 1);
        e.is("6 in hour 0", tied.move(0, 1, 0), 6);

        e.sentence("2 (a TURN) there is no POLE under it");
        t = e.town("row 000;row 000;raft a 2 1 0 0 0;raft b 1 1 0 2 0;pole 2 0;pole 0 1;");
        e.is("POLES beside it are none under it", t.move(0, 4, 0), 2);
        e.is("one under it", t.move(1, 4, 0), 0);
        e.is("a SLIDE needs none", t.move(1, 2, 0), 0);
        e.is("2 now", t.move(1, 4, 0), 2);

        e.sentence("3 it would lie beyond the LAGOON");
        t = e.town("row 00;row 00;raft a 2 2 0 0 0;");
        for (int side = 0; side < 4; side++) e.is("SIDE " + side, t.move(0, side, 0), 3);
        // In the largest LAGOON, too, there is nothing beyond its edges.
        t = e.town("row 00000000;".repeat(8) + "raft a 1 1 0 0 0;raft b 1 1 0 7 0;raft c 1 1 0 0 7;raft d 1 1 0 7 7;raft f 1 1 0 0 3;raft g 1 1 0 7 3;"
                + "raft h 1 2 0 0 4;raft i 1 2 0 7 4;pole 0 4;pole 7 5;");
        int[][] out = {{0, 0}, {0, 3}, {1, 0}, {1, 1}, {2, 2}, {2, 3}, {3, 1}, {3, 2}, {4, 3}, {5, 1}, {6, 4}, {7, 4}};
        for (int[] o : out) e.is("move(" + o[0] + ", " + o[1] + ", 0)", t.move(o[0], o[1], 0), 3);
        // Turned about its western CELL, it would lie to the south, on b, on GROUND 9 and beyond.
        t = e.town("row 0000;row 9000;raft a 3 1 1 0 0;raft b 1 1 0 0 1;raft c 1 1 0 3 0;pole 0 0;rope a c 0 1;");
        e.is("ahead of 4, 5 and 6", t.move(0, 4, 0), 3);
        t = e.town("row 000;row 000;row 000;raft a 2 1 0 0 0;pole 1 0;");
        e.is("to the north of the POLE", t.move(0, 4, 0), 3);
        t = e.town("row 000;row 000;row 000;raft a 1 3 0 0 0;pole 0 2;");
        e.is("to the east, just within", t.move(0, 4, 0), 0);
        e.is("to the south", t.move(0, 4, 0), 3);
        t = e.town("row 000;row 000;row 000;raft a 1 2 0 0 0;pole 0 0;");
        e.is("to the west", t.move(0, 4, 0), 3);
        t = e.town("row 00;row 00;row 00;raft a 1 3 0 0 0;pole 0 2;");
        e.is("to the east", t.move(0, 4, 0), 3);

        e.sentence("4 on another one");
        t = e.town("row 00090;row 00000;raft a 2 1 1 1 0;raft b 1 1 0 3 0;raft c 1 1 0 0 0;raft d 1 1 0 1 1;rope a c 0 1;pole 1 0;");
        e.is("ahead of 5 and 6", t.move(0, 1, 0), 4);
        e.is("a TURN", t.move(0, 4, 0), 4);
        RaftTown own = e.town("row 0000;raft a 3 1 0 0 0;");
        e.is("on its own CELLS", own.move(0, 1, 0), 0);

        e.sentence("5 it would not FLOAT there");
        t = e.town("row 0034;tide 1 9;raft a 1 1 2 1 0;raft b 1 1 0 0 0;rope a b 0 1;");
        e.is("WATER 2 is enough; the rope is not", t.move(0, 1, 0), 6);
        t = e.town("row 0040;tide 1 9;raft a 1 1 2 1 0;raft b 1 1 0 0 0;rope a b 0 1;");
        e.is("ahead of 6", t.move(0, 1, 0), 5);
        e.is("in hour 1 it would", t.move(0, 1, 1), 6);
        t = e.town("row 040;row 000;raft a 1 1 2 0 0;raft b 1 2 2 2 0;pole 2 1;");
        e.is("WATER 1", t.move(0, 1, 0), 5);
        e.is("it is where it was", t.at(0, 0), 0);
        t = e.town("row 00;row 40;raft a 2 1 2 0 0;pole 0 0;");
        e.is("a TURN", t.move(0, 4, 0), 5);
    }

    private void tooFar() {
        e.sentence("6 between it and one to which a rope ties it there would be more than the rope's GAP.");
        RaftTown t = e.town("row 000000;row 000000;raft a 1 1 0 0 0;raft b 1 1 0 1 0;raft c 1 1 0 0 1;rope b a 1 1;rope a c 9 1;");
        e.is("as much as its GAP", t.move(1, 1, 0), 0);
        e.is("one more", t.move(1, 1, 0), 6);
        e.lies(t, 1, 2, 0, 0);
        e.is("c is not tied so", t.move(2, 1, 0), 0);
        e.is("c", t.move(2, 1, 0), 0);
        e.is("c", t.move(2, 1, 0), 0);
        e.lay(t, 1, 0, 0, 3, 0, 0, 0, 1, 0);
        e.is("a to the west", t.move(0, 3, 0), 6);
        e.lay(t, 0, 0, 0, 5, 0, 0, 0, 1, 0);
        e.is("what lies too far stays WRONG if it still does", t.move(1, 3, 0), 6);
        e.is("a rope of two others is of no matter", t.move(2, 1, 0), 0);
        e.lay(t, 0, 0, 0, 3, 0, 0, 0, 1, 0);
        e.is("near enough behind it", t.move(1, 3, 0), 0);
        RaftTown two = e.town("row 00000;raft a 1 1 0 1 0;raft b 1 1 0 0 0;raft c 1 1 0 2 0;rope a c 9 1;rope a b 0 1;");
        e.lay(two, 1, 0, 0, 0, 0, 0, 4, 0, 0);
        e.is("each rope counts", two.move(0, 1, 0), 6);
        RaftTown turn = e.town("row 0000;row 0000;row 0000;raft a 3 1 0 0 0;raft b 1 1 0 3 0;rope a b 0 1;pole 0 0;");
        e.is("a TURN", turn.move(0, 4, 0), 6);
        RaftTown rows = e.town("row 0;row 0;row 0;raft a 1 1 0 0 0;raft b 1 1 0 0 1;rope a b 0 1;");
        e.is("rows between them", rows.move(1, 2, 0), 6);
    }

    private void wants() {
        e.sentence("WANTS: beside: a CELL of the one has a side in common with one of the other");
        RaftTown t = e.town("row 0000;row 0000;row 0000;row 0000;raft a 2 2 0 1 1;raft b 1 1 0 0 0;beside a b 1;beside b a 2;");
        for (int y = 0; y < 4; y++) for (int x = 0; x < 4; x++) {
            boolean inside = x >= 1 && x <= 2 && y >= 1 && y <= 2;
            boolean corner = (x == 0 || x == 3) && (y == 0 || y == 3);
            if (inside) continue;
            e.lay(t, 1, 1, 0, x, y, 0);
            e.is("wants(1), b on " + x + " " + y, t.wants(1), corner ? 0 : 3);
        }
        RaftTown one = e.town(FIVE + "raft a 1 1 0 2 2;raft b 1 1 0 0 0;beside a b 1;apart a b 1;sun a north 1;sun a east 1;sun a south 1;sun a west 1;");
        for (int y = 0; y < 5; y++) for (int x = 0; x < 5; x++) {
            if (x == 2 && y == 2) continue;
            boolean near = Math.abs(x - 2) + Math.abs(y - 2) == 1;
            int side = y < 2 ? 0 : x > 2 ? 1 : y > 2 ? 2 : 3;
            e.lay(one, 2, 2, 0, x, y, 0);
            e.is("wants(1), b on " + x + " " + y, one.wants(1), near ? 1 + 60 - (4 << side) : 62);
        }
        RaftTown edge = e.town("row 00000000;row 00000000;raft a 1 1 0 7 0;raft b 1 1 0 0 1;raft c 1 1 0 2 0;raft d 1 1 0 4 0;beside a b 1;beside c d 2;");
        e.is("not around the edge, nor over a column", edge.wants(1), 0);

        e.sentence("apart: none has");
        t = e.town("row 000;row 000;raft a 1 1 0 0 0;raft b 1 1 0 2 1;apart a b 1;apart b a 2;");
        e.is("far", t.wants(1), 3);
        e.lay(t, 0, 0, 0, 1, 1, 0);
        e.is("corner to corner", t.wants(1), 3);
        e.lay(t, 0, 0, 0, 1, 0, 0);
        e.is("side by side", t.wants(1), 0);
        e.lay(t, 0, 0, 0, 0, 1, 0);
        e.is("one above the other", t.wants(1), 0);
    }

    private void suns() {
        e.sentence("sun: no RAFT lies on a CELL that has a side in common with one of its CELLS to that SIDE (of the RAFT itself none counts)");
        RaftTown t = e.town("row 0000;row 0000;row 0000;row 0000;raft a 2 2 0 1 1;raft b 1 1 0 0 0;sun a north 1;sun a east 1;sun a south 1;sun a west 1;");
        for (int y = 0; y < 4; y++) for (int x = 0; x < 4; x++) {
            boolean column = x == 1 || x == 2;
            boolean row = y == 1 || y == 2;
            if (column && row) continue;
            int shaded = column ? (y == 0 ? 1 : 4) : row ? (x == 3 ? 2 : 8) : 0;
            e.lay(t, 1, 1, 0, x, y, 0);
            e.is("wants(1), b on " + x + " " + y, t.wants(1), 15 - shaded);
        }
        RaftTown own = e.town("row 000;row 000;row 000;raft a 3 3 0 0 0;sun a north 1;sun a east 1;sun a south 1;sun a west 1;");
        e.is("of itself none, at the edge none", own.wants(1), 15);
        RaftTown around = e.town("row 00000000;row 00000000;raft a 1 1 0 7 0;raft b 1 1 0 0 1;raft c 1 1 0 0 0;sun a east 1;sun b west 1;sun b east 1;sun a west 1;sun c north 1;");
        e.is("not around the edge", around.wants(1), 31);
        RaftTown second = e.town("row 000;row 000;raft a 1 2 0 0 0;raft b 1 1 0 2 0;raft c 1 1 0 1 1;sun a east 1;sun c east 1;");
        e.is("one of its CELLS is enough, and a third RAFT", second.wants(1), 2);

        e.sentence("lies: it lies on that CELL.");
        t = e.town("row 0000;row 0000;row 0000;raft a 2 1 0 1 1;raft b 1 1 0 0 0;lies a 0 1 1;lies a 1 1 1;lies a 2 1 1;lies a 3 1 1;lies a 1 0 1;lies a 1 2 1;lies a 0 0 1;");
        e.is("on its CELLS, not beside them, nor where another lies", t.wants(1), 2 + 4);
        e.lay(t, 1, 1, 1, 0, 0, 0);
        e.is("turned", t.wants(1), 2 + 32);

        e.sentence("MET: the W of all that are so.");
        e.is("ten of 99", e.town("row 0;raft a 1 1 0 0 0;" + "lies a 0 0 99;".repeat(10)).wants(0), 990);
        e.is("none", e.town("row 00;raft a 1 1 0 0 0;lies a 1 0 99;").wants(0), 0);
        e.is("some", e.town("row 00;raft a 1 1 0 0 0;lies a 1 0 99;lies a 0 0 3;sun a east 4;").wants(0), 7);
    }

    private void promise6() {
        e.section("Promise 6: water");
        RaftTown t = e.town("row 012;row 345;tide 23 9;");
        e.sentence("WATER of a CELL in hour h");
        e.is("the first CELL", t.water(0, 0, 0), 5);
        e.is("the last CELL", t.water(2, 1, 0), 0);
        e.is("the last hour", t.water(2, 1, 23), 4);
        e.is("X ahead of Y", t.water(1, 0, 0), 4);
        e.is("X ahead of Y", t.water(0, 1, 0), 2);

        e.sentence("NONE: no such ones.");
        int[][] none = {{-1, 0, 0}, {3, 0, 0}, {0, -1, 0}, {0, 2, 0}, {0, 0, -1}, {0, 0, 24}, {LOW, 0, 0}, {HIGH, 0, 0}, {0, LOW, 0},
            {0, HIGH, 0}, {0, 0, LOW}, {0, 0, HIGH}, {8, 0, 0}, {0, 8, 0}};
        for (int[] n : none) e.is("water(" + n[0] + ", " + n[1] + ", " + n[2] + ")", t.water(n[0], n[1], n[2]), NONE);
    }

    private void promise7() {
        e.section("Promise 7: raft");
        e.sentence("Of RAFT r in the TOWN: 0 X, 1 Y, 2 how wide it lies, 3 how high, 4 DRAFT, 5 whether it is turned (1, 0; of as wide as high ones 0).");
        RaftTown t = e.town("row 00000;row 00000;row 00000;row 00000;raft a 3 2 4 2 1;raft b 2 2 9 0 0;");
        int[][] told = {{2, 1, 3, 2, 4, 0}, {0, 0, 2, 2, 9, 0}};
        for (int r = 0; r < 2; r++) for (int what = 0; what < 6; what++) e.is("raft(" + r + ", " + what + ")", t.raft(r, what), told[r][what]);
        e.lay(t, 2, 1, 1, 0, 2, 1);
        int[][] laid = {{2, 1, 2, 3, 4, 1}, {0, 2, 2, 2, 9, 0}};
        for (int r = 0; r < 2; r++) for (int what = 0; what < 6; what++) e.is("raft(" + r + ", " + what + ")", t.raft(r, what), laid[r][what]);
        RaftTown square = e.town("row 000;row 000;row 000;raft a 2 2 0 1 0;pole 1 1;");
        e.is("a TURN of an as wide as high one", square.move(0, 4, 0), 0);
        e.lies(square, 0, 1, 1, 0);

        e.sentence("NoSuchElementException: no such ones.");
        int[][] none = {{2, 0}, {-1, 0}, {0, 6}, {0, -1}, {8, 0}, {LOW, 0}, {HIGH, 0}, {0, LOW}, {0, HIGH}, {2, 6}};
        for (int[] n : none) e.noRaft(t, n[0], n[1]);
        e.is("the last one", t.raft(1, 5), 0);
    }

    private void promise8() {
        e.section("Promise 8: at");
        RaftTown t = e.town("row 000;row 000;raft a 2 1 0 1 1;raft b 1 1 0 0 0;");
        e.sentence("The RAFT on a CELL");
        e.is("at(1, 1)", t.at(1, 1), 0);
        e.is("at(2, 1)", t.at(2, 1), 0);
        e.is("at(0, 0)", t.at(0, 0), 1);
        t.move(0, 0, 0);
        e.is("behind a SLIDE", t.at(2, 0), 0);
        e.is("behind a SLIDE", t.at(2, 1), NONE);

        e.sentence("NONE: none, no such one.");
        e.is("none", t.at(0, 1), NONE);
        int[][] none = {{-1, 0}, {3, 0}, {0, -1}, {0, 2}, {LOW, 0}, {HIGH, 0}, {0, LOW}, {0, HIGH}, {8, 0}, {9, 0}, {0, 8}};
        for (int[] n : none) e.is("at(" + n[0] + ", " + n[1] + ")", t.at(n[0], n[1]), NONE);
    }

    private void promise9() {
        e.section("Promise 9: lay");
        RaftTown t = e.town("row 000;row 000;row 999;raft a 2 1 5 0 0;raft b 1 1 0 2 0;rope a b 0 1;");
        e.sentence("The TOWN is laid, the tape's bytes being X, Y and whether it is turned (0, 1) of each RAFT: true");
        e.lay(t, 1, 1, 1, 0, 2, 1);
        e.lies(t, 0, 1, 1, 1);
        e.lies(t, 1, 0, 2, 0);
        e.lay(t, 1, 2, 0, 0, 0, 0);
        e.lies(t, 0, 1, 2, 0);
        e.is("a rope of GAP 0 is of no matter, nor WATER", t.gap(0, 1), 1);
        e.is("AGROUND", t.aground(0), 1);

        e.sentence("false: not as told, beyond the LAGOON, one on another: it stays.");
        int[][] nots = {{}, {0}, {0, 0, 0}, {0, 0, 0, 2, 0}, {0, 0, 0, 2, 0, 0, 0}, {0, 0, 0, 2, 0, 0, 0, 0, 0},
            {0, 0, 2, 2, 0, 0}, {0, 0, 0, 2, 0, 2}, {0, 0, 255, 2, 0, 0}, {0, 0, 128, 2, 0, 0}, {0, 0, 0, 2, 0, 255},
            {2, 0, 0, 0, 2, 0}, {3, 0, 0, 0, 2, 0}, {0, 3, 0, 2, 0, 0}, {0, 2, 1, 2, 0, 0}, {255, 0, 0, 0, 2, 0}, {0, 255, 0, 2, 0, 0}, {128, 0, 0, 0, 2, 0},
            {0, 0, 0, 3, 0, 0}, {0, 0, 0, 0, 3, 0}, {8, 0, 0, 0, 2, 0},
            {0, 0, 0, 0, 0, 0}, {0, 0, 0, 1, 0, 0}, {0, 0, 1, 0, 1, 0}, {1, 1, 0, 2, 1, 1}};
        for (int[] not : nots) {
            Tape.town(t, not);
            e.is("lay() of " + java.util.Arrays.toString(not), t.lay(), false);
            e.lies(t, 0, 1, 2, 0);
            e.lies(t, 1, 0, 0, 0);
        }
    }

    private void promises10to12() {
        RaftTown t = e.town("row 03;row 05;tide 0 9;tide 23 0;raft a 1 2 3 0 0;raft b 1 2 3 1 0;");
        e.section("Promise 10: aground");
        e.sentence("RAFTS AGROUND in hour h, as bits");
        e.is("aground(0)", t.aground(0), 0);
        e.is("aground(1)", t.aground(1), 2);
        e.is("aground(23)", t.aground(23), 3);
        e.sentence("NONE: no such hour.");
        for (int h : new int[] {-1, 24, LOW, HIGH}) e.is("aground(" + h + ")", t.aground(h), NONE);

        e.section("Promise 11: breaks");
        e.sentence("RAFTS that BREAK in hour h, as bits");
        e.is("breaks(0)", t.breaks(0), 0);
        e.is("breaks(1)", t.breaks(1), 2);
        e.is("breaks(23): a lies even", t.breaks(23), 2);
        e.sentence("NONE: no such hour.");
        for (int h : new int[] {-1, 24, LOW, HIGH}) e.is("breaks(" + h + ")", t.breaks(h), NONE);

        e.section("Promise 12: floats");
        e.sentence("Hours in which RAFT r FLOATS where it lies, as bits");
        e.is("floats(0)", t.floats(0), EVERY_HOUR & ~(1 << 23));
        e.is("floats(1)", t.floats(1), 1);
        RaftTown moved = e.town("row 05;raft a 1 1 1 0 0;tide 3 9;");
        e.is("floats(0)", moved.floats(0), EVERY_HOUR);
        e.lay(moved, 1, 0, 0);
        e.is("where it lies now", moved.floats(0), 1 << 3);
        e.sentence("NONE: no such one.");
        for (int r : new int[] {-1, 2, 8, LOW, HIGH}) e.is("floats(" + r + ")", t.floats(r), NONE);
    }

    private void promise13() {
        e.section("Promise 13: gap");
        RaftTown t = e.town("row 00000;row 00000;raft a 1 1 0 0 0;raft b 2 1 0 3 1;");
        e.sentence("GAP of two RAFTS");
        e.is("gap(0, 1)", t.gap(0, 1), 2);
        e.is("gap(1, 0)", t.gap(1, 0), 2);
        e.lay(t, 0, 0, 0, 3, 0, 1);
        e.is("as it lies now", t.gap(0, 1), 2);
        e.lay(t, 2, 0, 0, 3, 0, 1);
        e.is("side by side", t.gap(1, 0), 0);
        e.sentence("NONE: no such ones, or one.");
        int[][] none = {{0, 0}, {1, 1}, {0, 2}, {2, 0}, {-1, 0}, {0, -1}, {-1, -1}, {0, 8}, {LOW, 1}, {0, HIGH}};
        for (int[] n : none) e.is("gap(" + n[0] + ", " + n[1] + ")", t.gap(n[0], n[1]), NONE);
    }

    private void promise14() {
        e.section("Promise 14: move");
        e.sentence("A SLIDE of RAFT r to a SIDE (0 north, 1 east, 2 south, 3 west), a TURN (4), in hour h: 0 it is done");
        RaftTown t = e.town("row 000;row 000;row 000;tide 23 0;raft a 1 1 0 0 0;raft b 1 2 1 1 0;pole 1 1;");
        e.is("south", t.move(0, 2, 23), 0);
        e.lies(t, 0, 0, 1, 0);
        e.is("north", t.move(0, 0, 0), 0);
        e.lies(t, 0, 0, 0, 0);
        e.is("turn", t.move(1, 4, 22), 0);
        e.lies(t, 1, 1, 1, 1);
        e.is("west", t.move(1, 3, 0), 0);
        e.lies(t, 1, 0, 1, 1);
        e.is("east", t.move(1, 1, 0), 0);
        e.lies(t, 1, 1, 1, 1);

        e.sentence("why it is WRONG (1 to 6)");
        t = e.town("row 0000;row 0400;tide 1 0;raft a 1 1 2 0 0;raft b 1 1 2 2 0;raft c 1 1 0 0 1;rope a b 1 1;");
        int[][] wrong = {{0, 1, 1, 1}, {0, 4, 0, 2}, {0, 3, 0, 3}, {0, 2, 0, 4}, {1, 1, 0, 6}};
        for (int[] w : wrong) e.is("move(" + w[0] + ", " + w[1] + ", " + w[2] + ")", t.move(w[0], w[1], w[2]), w[3]);
        e.is("east", t.move(0, 1, 0), 0);
        e.is("onto GROUND 4", t.move(0, 2, 0), 5);
        e.lies(t, 0, 1, 0, 0);
        e.lies(t, 1, 2, 0, 0);

        e.sentence("NONE: no such ones.");
        int[][] none = {{-1, 0, 0}, {3, 0, 0}, {8, 0, 0}, {0, -1, 0}, {0, 5, 0}, {0, 0, -1}, {0, 0, 24}, {LOW, 1, 0}, {HIGH, 1, 0},
            {0, LOW, 0}, {0, HIGH, 0}, {0, 1, LOW}, {0, 1, HIGH}, {0, 3, 24}};
        for (int[] n : none) e.is("move(" + n[0] + ", " + n[1] + ", " + n[2] + ")", t.move(n[0], n[1], n[2]), NONE);
        e.lies(t, 0, 1, 0, 0);
    }

    private void promise15() {
        e.section("Promise 15: wants");
        RaftTown t = e.town("row 000;raft a 1 1 0 0 0;raft b 1 1 0 2 0;lies a 0 0 7;beside a b 3;apart a b 11;");
        e.sentence("MET (what 0), WANTS that are so, as bits (1).");
        e.is("wants(0)", t.wants(0), 18);
        e.is("wants(1)", t.wants(1), 5);
        t.move(1, 3, 0);
        e.is("wants(0)", t.wants(0), 10);
        e.is("wants(1)", t.wants(1), 3);
        e.sentence("NONE: another what.");
        for (int what : new int[] {-1, 2, LOW, HIGH}) e.is("wants(" + what + ")", t.wants(what), NONE);
    }

    private void promise31() {
        e.section("Promise 31: could");
        RaftTown t = e.town("row 0034;row 0000;tide 0 0;tide 23 9;raft a 2 1 2 0 1;raft b 1 1 1 3 1;raft c 1 1 0 0 0;rope a b 1 1;");
        e.sentence("Hours in which RAFT r could lie at a CELL (its corner), turned (0, 1), and FLOAT, the others lying as they do, as bits");
        e.is("where it lies", t.could(0, 0, 1, 0), EVERY_HOUR & ~1);
        e.is("on its own CELLS and one more", t.could(0, 1, 1, 0), EVERY_HOUR & ~1);
        e.is("GROUND 3: WATER 2", t.could(0, 1, 0, 0), EVERY_HOUR & ~1);
        e.is("GROUND 4: WATER 1", t.could(0, 2, 0, 0), 1 << 23);
        e.is("turned", t.could(0, 2, 0, 1), EVERY_HOUR & ~1);
        e.is("as wide as high, 0 and 1 alike", t.could(1, 3, 0, 0), EVERY_HOUR & ~1);
        e.is("as wide as high, 0 and 1 alike", t.could(1, 3, 0, 1), EVERY_HOUR & ~1);
        e.is("it may be far: no SLIDES are needed", t.could(2, 3, 0, 0), EVERY_HOUR);
        e.is("at the first CELL", t.could(2, 0, 0, 0), EVERY_HOUR);
        e.is("at the first CELL, turned", e.town("row 00;row 00;raft a 1 2 1 1 0;").could(0, 0, 0, 1), EVERY_HOUR);
        e.lies(t, 0, 0, 1, 0);

        e.sentence("(0, too, where it would lie on one, or with a rope too short)");
        e.is("on b", t.could(0, 2, 1, 0), 0);
        e.is("on c, turned", t.could(0, 0, 0, 1), 0);
        e.is("on a", t.could(2, 1, 1, 0), 0);
        e.is("GAP 1, as the rope's", t.could(1, 3, 1, 0), EVERY_HOUR & ~1);
        e.is("on a, from b", t.could(1, 0, 1, 0), 0);
        RaftTown roped = e.town("row 00000;raft a 1 1 0 0 0;raft b 1 1 0 1 0;rope a b 1 1;");
        e.is("GAP 1", roped.could(1, 2, 0, 0), EVERY_HOUR);
        e.is("GAP 2", roped.could(1, 3, 0, 0), 0);
        e.is("GAP 2, from the last", roped.could(1, 4, 0, 1), 0);
        RaftTown dry = e.town("row 09;raft a 1 1 1 0 0;");
        e.is("no hour", dry.could(0, 1, 0, 0), 0);

        e.sentence("NONE: no such ones, beyond the LAGOON.");
        int[][] none = {{-1, 0, 0, 0}, {3, 0, 0, 0}, {8, 0, 0, 0}, {0, -1, 0, 0}, {0, 4, 0, 0}, {0, 0, -1, 0}, {0, 0, 2, 0}, {0, 0, 0, -1}, {0, 0, 0, 2},
            {0, 3, 0, 0}, {0, 3, 1, 0}, {0, 0, 1, 1}, {0, 2, 1, 1}, {LOW, 0, 0, 0}, {0, HIGH, 0, 0}, {0, 0, LOW, 0}, {0, 0, 0, HIGH}};
        for (int[] n : none) e.is("could(" + n[0] + ", " + n[1] + ", " + n[2] + ", " + n[3] + ")", t.could(n[0], n[1], n[2], n[3]), NONE);
    }
}

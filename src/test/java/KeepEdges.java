/** Sentences on STORMS and CUT ("Terms", ==== 3) and promises 32 to 36. */
final class KeepEdges {
    private static final int NONE = Edges.NONE;
    private static final int LOW = Integer.MIN_VALUE;
    private static final int HIGH = Integer.MAX_VALUE;
    /** CELLS: a 1, b 2, c 3, d 4, f 1. */
    private static final String RAFTS = "row 00000000;row 00000000;row 00000000;raft a 1 1 0 0 0;raft b 2 1 0 1 0;raft c 3 1 0 3 0;raft d 2 2 0 6 0;raft f 1 1 0 0 2;";

    private final Edges e;

    KeepEdges(Edges edges) { e = edges; }

    void run() {
        e.section("Terms");
        storms();
        cuts();
        promise32();
        promise33();
        promise34();
        promise35();
        promise36();
    }

    private void storms() {
        e.sentence("STORM of a force F: RAFTS hang together by ropes. All that hang together are DRIVEN, if F times their CELLS is more than HOLDS of their moors together.");
        RaftTown t = e.town(RAFTS + "rope b a 0 5;rope c b 0 7;moor a 5;moor c 13;moor d 4;");
        // a, b, c: 6 CELLS by 18; d: 4 by 4; f: 1 by none.
        int[][] due = {{0, 0}, {1, 16}, {2, 16 + 8}, {3, 16 + 8}, {4, 31}, {99, 31}};
        for (int[] d : due) e.is("storm(" + d[0] + ")", t.storm(d[0]), d[1]);
        // They hang together however long the row of ropes is, and in whatever order it was told.
        StringBuilder chain = new StringBuilder("row 00000000;");
        for (int i = 0; i < 8; i++) chain.append("raft ").append((char) ('a' + i)).append(" 1 1 0 ").append(i).append(" 0;");
        for (int i = 6; i >= 0; i--) chain.append("rope ").append((char) ('a' + i)).append(' ').append((char) ('b' + i)).append(" 0 1;");
        t = e.town(chain + "moor h 16;");
        e.is("2 times 8 is not more than 16", t.storm(2), 0);
        e.is("3 times 8 is", t.storm(3), 255);
        t = e.town(chain + "moor a 16;");
        e.is("from the other end", t.storm(2), 0);
        t = e.town("row 0;raft a 1 1 0 0 0;moor a 99;");
        e.is("99 is not more than 99", t.storm(99), 0);
        t = e.town("row 0;raft a 1 1 0 0 0;moor a 98;");
        e.is("99 is more than 98", t.storm(99), 1);
    }

    private void cutIs(RaftTown t, int r, int force, int holds, int set) {
        e.is("cut(" + r + ", " + force + ", 0)", t.cut(r, force, 0), holds);
        e.is("cut(" + r + ", " + force + ", 1)", t.cut(r, force, 1), set);
    }

    private void cuts() {
        e.sentence("CUT for a RAFT: ropes, cut, so that it is not DRIVEN: the least HOLDS together (of like ones the fewest, then the least set as bits).");
        RaftTown t = e.town(RAFTS + "rope a b 0 5;rope c b 0 7;rope a c 2 2;moor a 12;");
        cutIs(t, 0, 2, 0, 0);
        // By 3, 18 are more than 12: a alone by ropes 0 and 2, a with b by 1 and 2, a with c by 0 and 1.
        cutIs(t, 0, 3, 7, 5);
        cutIs(t, 1, 3, 9, 6);
        cutIs(t, 2, 3, 12, 3);
        cutIs(t, 0, 12, 7, 5);
        cutIs(t, 0, 13, NONE, NONE);
        // By 1, 7 are more than 3: a with f by rope 2 (2), a with b by 0 and 1 (1 and 1).
        t = e.town(RAFTS + "rope b c 0 1;rope a f 1 1;rope a b 0 2;moor a 3;");
        cutIs(t, 0, 1, 2, 4);
        t = e.town(RAFTS + "rope a b 0 2;rope b c 0 1;rope a f 1 1;moor a 3;");
        cutIs(t, 0, 1, 2, 1);
        // By 2, 12 are more than 11: without b 8 by 10, without c 6 by 10, each by one rope of 3.
        t = e.town(RAFTS + "rope a c 2 3;rope a b 0 3;moor a 9;moor b 1;moor c 1;");
        cutIs(t, 0, 2, 3, 1);
        // Fewer ropes are of no matter where they hold more.
        t = e.town(RAFTS + "rope a b 0 5;rope b c 0 2;rope a f 1 2;moor a 3;");
        cutIs(t, 0, 1, 4, 6);
        // Only its own ropes: d and c are DRIVEN apart from it.
        t = e.town(RAFTS + "rope c d 0 1;rope a b 0 9;moor a 1;");
        cutIs(t, 0, 1, 9, 2);
        cutIs(t, 2, 1, NONE, NONE);
        StringBuilder star = new StringBuilder("row 00000000;");
        for (int i = 0; i < 8; i++) star.append("raft ").append((char) ('a' + i)).append(" 1 1 0 ").append(i).append(" 0;");
        for (int i = 1; i < 8; i++) star.append("rope a ").append((char) ('a' + i)).append(' ').append(i - 1).append(" 99;");
        cutIs(e.town(star + "moor a 1;"), 0, 1, 7 * 99, 127);
        cutIs(e.town(star + "rope b c 0 99;moor a 1;"), 1, 1, NONE, NONE);
        cutIs(e.town(star + "rope b c 0 99;moor b 1;"), 1, 1, 2 * 99, 129);
    }

    private void promise32() {
        e.section("Promise 32: storm");
        RaftTown t = e.town("row 000;raft a 1 1 0 0 0;raft b 2 1 0 1 0;moor b 99;");
        e.sentence("RAFTS that are DRIVEN by force F (0 to 99), as bits");
        e.is("storm(0)", t.storm(0), 0);
        e.is("storm(1)", t.storm(1), 1);
        e.is("storm(49)", t.storm(49), 1);
        e.is("storm(50)", t.storm(50), 3);
        e.is("storm(99)", t.storm(99), 3);
        e.sentence("NONE: not as told.");
        for (int force : new int[] {-1, 100, LOW, HIGH}) e.is("storm(" + force + ")", t.storm(force), NONE);
    }

    private void promise33() {
        e.section("Promise 33: cut");
        RaftTown t = e.town("row 000;raft a 1 1 0 0 0;raft b 2 1 0 1 0;rope a b 0 7;moor a 99;");
        e.sentence("CUT for RAFT r: HOLDS (what 0), ropes as bits (1).");
        cutIs(t, 0, 33, 0, 0);
        cutIs(t, 0, 34, 7, 1);
        cutIs(t, 0, 99, 7, 1);
        cutIs(t, 1, 0, 0, 0);
        e.is("storm(34): no rope was cut by it", t.storm(34), 3);

        e.sentence("NONE: it can't be, or no such ones.");
        cutIs(t, 1, 34, NONE, NONE);
        int[][] none = {{-1, 0, 0}, {2, 0, 0}, {8, 0, 0}, {0, -1, 0}, {0, 100, 0}, {0, 0, -1}, {0, 0, 2}, {LOW, 0, 0}, {HIGH, 0, 1}, {0, LOW, 0}, {0, HIGH, 0},
            {0, 0, LOW}, {0, 0, HIGH}};
        for (int[] n : none) e.is("cut(" + n[0] + ", " + n[1] + ", " + n[2] + ")", t.cut(n[0], n[1], n[2]), NONE);
    }

    private static final String KEPT = "row 0008;row 0398;tide 2 7;raft a 1 1 0 0 1;raft b 2 1 1 0 0;raft c 1 1 1 2 0;raft d 1 2 1 3 0;"
            + "rope b c 1 4;rope d c 0 6;moor b 5;pole 3 1;pole 0 1;beside d a 7;apart c b 5;lies b 0 1 3;sun c east 2;square 2 1 1 1;";

    /** As kept by keep(): b turned on 1 0, c on 2 1. */
    private void keptIs(RaftTown t) {
        int[] counts = {4, 2, 4, 2, 2, 4, 2};
        for (int what = 0; what < counts.length; what++) e.is("count(" + what + ")", t.count(what), counts[what]);
        e.is("GROUND and tide", t.water(1, 1, 2), 4);
        e.is("5 without", t.water(1, 1, 1), 2);
        e.lies(t, 1, 1, 0, 1);
        e.lies(t, 2, 2, 1, 0);
        int[][] rafts = {{0, 1, 1, 1, 0, 0}, {1, 0, 1, 2, 1, 1}, {2, 1, 1, 1, 1, 0}, {3, 0, 1, 2, 1, 0}};
        for (int r = 0; r < 4; r++) for (int what = 0; what < 6; what++) e.is("raft(" + r + ", " + what + ")", t.raft(r, what), rafts[r][what]);
        e.is("AGROUND: c on GROUND 9, d on 8 and 8", t.aground(0), 4 + 8);
        e.is("none BREAKS", t.breaks(0), 0);
        e.is("not apart, c beside b; the sun of c is d's", t.wants(1), 0);
        int[][] acts = {{5, 9}, {4, 1}};
        for (int i = 0; i < 2; i++) for (int what = 0; what < 2; what++) e.is("act(" + i + ", " + what + ")", t.act(i, what), acts[i][what]);
        e.is("a alone; b, c, d hang together, 5 CELLS by 5", t.storm(1), 1);
        e.is("and are DRIVEN by 2", t.storm(2), 15);
        e.is("b alone by the rope to c", t.cut(1, 2, 0), 4);
        e.is("b alone by the rope to c", t.cut(1, 2, 1), 1);
        e.is("no POLE under b", t.move(1, 4, 0), 2);
        t.judge(48);
        e.is("c in the square", t.judged(2), 4);
        goOn(t);
    }

    /** What GAPS, POLES and WANTS do, as they are kept; and back again. */
    private void goOn(RaftTown t) {
        e.lay(t, 0, 1, 0, 0, 0, 0, 2, 0, 0, 3, 0, 0);
        e.is("WANTS: the sun of c is d's, not apart", t.wants(1), 0);
        e.lay(t, 1, 1, 0, 0, 0, 1, 2, 1, 0, 3, 0, 0);
        e.is("WANTS: c apart from b, b on 0 1", t.wants(1), 2 + 4);
        e.is("W", t.wants(0), 5 + 3);
        e.is("b from c, as far as its rope lets it", t.gap(1, 2), 1);
        e.is("as far, on 2 0", t.could(2, 2, 0, 0), Edges.EVERY_HOUR);
        e.is("POLE 1 under it: to the east, on a", t.move(1, 4, 0), 4);
        e.lay(t, 2, 0, 0, 0, 0, 1, 1, 0, 0, 3, 0, 0);
        e.is("WANTS: d beside a, b on 0 1; a is in c's sun", t.wants(1), 1 + 4);
        e.is("W", t.wants(0), 7 + 3);
        e.is("c could lie beside d and b alone", t.could(2, 1, 0, 0), 0);
        e.lay(t, 0, 1, 0, 1, 0, 1, 2, 1, 0, 3, 0, 0);
    }

    private static final String OTHER = "row 99990;row 99999;row 99999;tide 2 1;tide 1 1;raft z 3 1 9 1 2;raft y 1 1 0 0 0;moor z 99;pole 0 1;sun z east 1;square 3 2 1 1;";

    private void otherIs(RaftTown t) {
        int[] counts = {5, 3, 2, 1, 0, 1, 0};
        for (int what = 0; what < counts.length; what++) e.is("count(" + what + ")", t.count(what), counts[what]);
        e.is("water(4, 0, 2)", t.water(4, 0, 2), 1);
        e.is("water(4, 0, 3)", t.water(4, 0, 3), 5);
        e.lies(t, 0, 1, 2, 0);
        e.lies(t, 1, 0, 0, 0);
        e.is("aground(0)", t.aground(0), 1);
        e.is("storm(33)", t.storm(33), 2);
        e.is("no rope", t.move(1, 2, 0), 0);
        e.is("the POLE", t.move(1, 4, 0), 0);
        e.is("and back", t.move(1, 0, 0), 0);
        e.is("no POLE", t.move(1, 4, 0), 2);
        e.is("wants(1)", t.wants(1), 1);
    }

    private RaftTown keep(int k) {
        RaftTown t = e.town(KEPT);
        e.lay(t, 0, 1, 0, 1, 0, 1, 2, 1, 0, 3, 0, 0);
        e.plan(t, "wait 9;turn b;", 2);
        e.is("image(" + k + ")", t.image(k), true);
        return t;
    }

    private void promise34() {
        e.section("Promise 34: image");
        e.sentence("LAGOON, TOWN and PLAN are kept in place k (0, 1): true");
        for (int k = 0; k < 2; k++) {
            RaftTown t = keep(k);
            keptIs(t);
            e.lay(t, 1, 1, 0, 0, 0, 0, 2, 0, 0, 3, 0, 0);
            e.plan(t, "wait 1;", 1);
            e.is("restore(" + k + ")", t.restore(k), true);
            keptIs(t);
            e.tellLagoon(t, OTHER);
            e.is("the other place is its own", t.image(1 - k), true);
            e.is("restore(" + k + ")", t.restore(k), true);
            keptIs(t);
            e.is("restore(" + (1 - k) + ")", t.restore(1 - k), true);
            otherIs(t);
            e.is("image(" + k + ") anew", t.image(k), true);
            e.tellLagoon(t, "row 0;");
            e.is("restore(" + k + ")", t.restore(k), true);
            otherIs(t);
        }
        RaftTown none = new RaftTown();
        e.is("an empty one", none.image(0), true);
        e.tellLagoon(none, "row 0;");
        e.is("restore(0)", none.restore(0), true);
        e.is("rows", none.count(1), 0);

        e.sentence("false: no such one.");
        RaftTown t = e.town("row 0;");
        for (int k : new int[] {-1, 2, LOW, HIGH}) e.is("image(" + k + ")", t.image(k), false);
        e.is("nothing was kept", t.restore(0) || t.restore(1), false);
    }

    private void promise35() {
        e.section("Promise 35: restore");
        e.sentence("They are as kept in place k (the tape, and what other calls told last, stays): true");
        RaftTown t = keep(1);
        e.tellLagoon(t, "row 000;raft z 1 1 0 0 0;lies z 2 0 5;lies z 1 0 5;");
        e.plan(t, "slide z east;wait 3;", 2);
        e.is("judge(0)", t.judge(0), NONE);
        e.is("best(9, 0)", t.best(9, 0), 5);
        e.is("all()", t.all(), 5);
        e.planFaulty(t, "wait @0;", 2);
        t.feed(1, 2, 3, 4, 5);
        e.is("restore(1)", t.restore(1), true);
        e.is("the tape", t.count(7), 20);
        e.is("fault()", t.fault(), 2);
        e.is("judged(1)", t.judged(1), 4);
        e.is("judged(4)", t.judged(4), 5);
        e.is("judgedAt(0, 0)", t.judgedAt(0, 0), 1);
        e.is("judgedAt(1, 0)", t.judgedAt(1, 0), NONE);
        e.found(t, 1);
        e.is("allAt(0, 0)", t.allAt(0, 0), 1);
        e.is("allAt(1, 0)", t.allAt(1, 0), NONE);
        e.is("left()", t.left(), 1);
        t.end(0);
        keptIs(t);
        // What is changed behind it does not change what is kept.
        e.plan(t, "slide b east;slide b east;slide b east;", 3);
        e.lay(t, 1, 1, 0, 0, 0, 0, 2, 0, 0, 3, 0, 0);
        e.is("restore(1) once more", t.restore(1), true);
        keptIs(t);
        e.plan(t, "turn b;", 1);
        e.is("NAMES", t.act(0, 1), 1);

        e.sentence("false: no such one, or nothing is kept there.");
        e.is("nothing is kept in 0", t.restore(0), false);
        for (int k : new int[] {-1, 2, LOW, HIGH}) e.is("restore(" + k + ")", t.restore(k), false);
        e.is("it stays", t.count(6), 1);
        e.is("nothing is kept in a new object", new RaftTown().restore(1), false);
    }

    private void promise36() {
        e.section("Promise 36: count");
        e.sentence("0 columns, 1 rows, 2 RAFTS, 3 POLES, 4 ropes, 5 WANTS, 6 ACTS, 7 bytes of the tape.");
        RaftTown t = e.town("row 0000000;row 0000000;row 0000000;raft a 1 1 0 0 0;raft b 1 1 0 1 0;raft c 1 1 0 2 0;raft d 1 1 0 3 0;pole 0 0;"
                + "rope a b 0 1;rope a c 9 1;sun a east 1;sun b east 1;sun c east 1;lies a 0 0 1;beside a b 1;");
        e.plan(t, "wait 1;wait 2;wait 3;wait 4;wait 5;turn a;", 6);
        t.feed(0, 0, 0, 0, 0);
        t.end(8);
        int[] due = {7, 3, 4, 1, 2, 5, 6, 8};
        for (int what = 0; what < 8; what++) e.is("count(" + what + ")", t.count(what), due[what]);
        e.sentence("NONE for another what.");
        for (int what : new int[] {-1, 8, LOW, HIGH}) e.is("count(" + what + ")", t.count(what), NONE);
    }
}

/** Sentences on PLANS ("Terms", ==== 3) and promises 16 to 22. */
final class PlanEdges {
    private static final int NONE = Edges.NONE;
    private static final int LOW = Integer.MIN_VALUE;
    private static final int HIGH = Integer.MAX_VALUE;
    private static final String PAIR = "row 000;row 000;raft a 1 1 0 0 0;raft b 1 1 0 2 1;";

    private final Edges e;

    PlanEdges(Edges edges) { e = edges; }

    void run() {
        e.section("Terms");
        texts();
        faults();
        quarters();
        busy();
        busyDays();
        tooMany();
        instead();
        promise16();
        promise17();
        promise18();
        promise19();
        promise20();
        promise21();
        promise22();
    }

    private static String blanks(int many) { return " ".repeat(many); }

    private void texts() {
        e.sentence("==== 3. A PLAN is a text of at most 700 bytes: { ACT ; }.");
        RaftTown t = e.town(PAIR);
        e.plan(t, "", 0);
        e.plan(t, "wait 1;" + blanks(693), 1);
        e.planFaulty(t, "wait 1;" + blanks(693) + "@ ", 1);
        e.plan(t, "wait 1;" + blanks(686) + "wait 1;", 2);
        e.planFaulty(t, "wait 1;" + blanks(687) + "wait 1@;", 1);
        e.planFaulty(t, "wait 1;" + blanks(690) + "wai@t 1;", 1);
        e.planFaulty(t, "wait 1;" + blanks(690) + "@waits 1;", 1);
        e.planFaulty(t, "wait 1;" + blanks(687) + "wait @97;", 2);
        e.planFaulty(t, "wait 1;" + blanks(693) + "@" + blanks(240), 1);
        e.planFaulty(t, "wait 1;" + blanks(693) + "@x", 1);
        e.planFaulty(t, "wait 1;" + blanks(692) + "@Xx", 1);
        e.planFaulty(t, "@;", 1);
        e.planFaulty(t, "wait 1@", 1);
        e.planFaulty(t, "wait 1 @wait 1;", 1);

        e.sentence("ACT: 'slide' RAFT SIDE | 'turn' RAFT | 'wait' N (1 to 96).");
        e.plan(t, "slide a north;slide a east;slide b south;slide b west;turn a;wait 1;wait 96;", 7);
        int[][] due = {{0, 0}, {1, 0}, {2, 1}, {3, 1}, {4, 0}, {5, 1}, {5, 96}};
        for (int i = 0; i < 7; i++) for (int what = 0; what < 2; what++) e.is("act(" + i + ", " + what + ")", t.act(i, what), due[i][what]);
        e.planFaulty(t, "wait @0;", 2);
        e.planFaulty(t, "wait @97;", 2);
        e.plan(t, "wait 00000096;", 1);
    }

    private void faults() {
        e.sentence("FAULTS: 1, 2, 3, 4 a 61st ACT (at its first WORD).");
        RaftTown t = e.town(PAIR);
        String[] ones = {"@x;", "@5;", "@raft a;", "@north;", "@a;", "slide@;", "slide @1 east;", "slide @east a;", "slide @turn east;", "slide a@;",
            "slide a @up;", "slide a @1;", "slide a @b;", "slide a east @1;", "turn@;", "turn @1;", "turn @wait;", "turn a @b;", "wait@;", "wait @a;",
            "wait 1 @1;", "slide@", "slide a@", "slide a east@", "turn@", "turn a @", "wait@", "wait 1@", "wait 1;@.", "wait @1a;"};
        for (String text : ones) e.planFaulty(t, text, 1);
        e.planFaulty(t, "wait @0;", 2);
        e.planFaulty(t, "wait 1;wait @97;wait 0;", 2);
        e.planFaulty(t, "slide @z up;", 3);
        e.planFaulty(t, "turn a;turn @aa;", 3);
        e.plan(t, "wait 1;".repeat(60), 60);
        e.planFaulty(t, "wait 1;".repeat(60) + "@wait 1;", 4);
        e.planFaulty(t, "wait 1;".repeat(60) + "@slide z up", 4);
        e.planFaulty(t, "wait 1;".repeat(60) + "@turn", 4);
        e.planFaulty(t, "wait 1;".repeat(60) + "@x", 1);
        e.planFaulty(t, "wait 1;".repeat(60) + "@;", 1);
        e.planFaulty(t, "wait 1;".repeat(59) + "wait @0;wait 1;", 2);
        e.plan(t, "wait 1;".repeat(60) + blanks(280), 60);
        e.planFaulty(t, "wait 1;".repeat(60) + blanks(280) + "@ ", 1);
        RaftTown empty = new RaftTown();
        e.planFaulty(empty, "turn @a;", 3);
        e.plan(empty, "wait 1;", 1);
    }

    private void quarters() {
        e.sentence("It is done on the TOWN of then, begun in a QUARTER (0 to 95; four an hour, the hour is QUARTERS by 4, its rest by 24)");
        RaftTown t = e.town("row 00000000;tide 0 0;tide 1 0;raft a 1 1 1 0 0;");
        e.plan(t, "slide a east;".repeat(6), 6);
        int[][] due = {{0, 0}, {3, 0}, {4, 0}, {7, 0}, {8, NONE}, {89, NONE}, {90, NONE}, {91, 5}, {92, 4}, {94, 2}, {95, 1}};
        for (int[] d : due) e.is("judge(" + d[0] + ")", t.judge(d[0]), d[1]);
        t.move(0, 1, 2);
        t.move(0, 1, 2);
        e.is("on the TOWN of then, two CELLS further on", t.judge(8), 5);
        e.is("why", t.judged(0), 3);
        // Hours 0 and 1 come again each day: QUARTER 96 is of hour 0, 104 of hour 2, 191 of 23, 192 of 0.
        e.plan(t, "wait 96;slide a west;", 2);
        e.is("judge(0)", t.judge(0), 1);
        e.is("judge(7)", t.judge(7), 1);
        e.is("judge(8)", t.judge(8), NONE);
        e.is("judge(95)", t.judge(95), NONE);
        e.plan(t, "wait 96;wait 1;slide a west;", 3);
        e.is("judge(95)", t.judge(95), 2);
        RaftTown late = e.town("row 00;tide 23 0;raft a 1 1 1 0 0;");
        e.plan(late, "slide a east;", 1);
        int[][] lateDue = {{0, NONE}, {91, NONE}, {92, 0}, {95, 0}};
        for (int[] d : lateDue) e.is("judge(" + d[0] + ")", late.judge(d[0]), d[1]);

        e.sentence("a SLIDE, a TURN takes a QUARTER (judged by the hour in which it begins), 'wait' N of them.");
        t = e.town("row 000;row 000;tide 5 0;raft a 1 1 1 0 0;pole 0 0;");
        e.plan(t, "turn a;slide a east;wait 7;slide a west;", 4);
        e.is("judge(9): the last one begins in 18", t.judge(9), NONE);
        e.is("QUARTERS", t.judged(1), 10);
        e.is("judge(10): in 19, and goes on into hour 5", t.judge(10), NONE);
        e.is("judge(11): in 20", t.judge(11), 3);
        e.is("QUARTERS", t.judged(1), 9);
        e.is("judge(23): it begins aground", t.judge(23), 0);
        e.is("QUARTERS", t.judged(1), 0);
        e.is("judge(24)", t.judge(24), NONE);
        e.plan(t, "wait 96;".repeat(60), 60);
        e.is("judge(95)", t.judge(95), NONE);
        e.is("QUARTERS", t.judged(1), 5760);

        e.sentence("The TOWN stays as it is.");
        t = e.town("row 000;row 000;raft a 2 1 0 0 0;pole 0 0;");
        e.plan(t, "slide a east;slide a west;turn a;slide a east;", 4);
        e.is("judge(0)", t.judge(0), NONE);
        e.lies(t, 0, 0, 0, 0);
        e.is("tooMany(0)", t.tooMany(0), 2);
        e.lies(t, 0, 0, 0, 0);
        e.is("instead(0): ACT 2 as south", t.instead(0), 22);
        e.lies(t, 0, 0, 0, 0);
        e.is("at(0, 1)", t.at(0, 1), NONE);
        e.is("ACTS", t.count(6), 4);
    }

    private static final String SQUARE = "row 0000;row 0000;row 0000;raft a 1 1 0 0 0;raft b 2 1 0 2 2;square 1 0 1 2;";

    private void busy() {
        e.sentence("BUSY: QUARTERS of hour 12 (48 to 51 of each 96) in which a RAFT lies in the square (as all lie when an ACT in it begins; of 'wait' each).");
        RaftTown t = e.town(SQUARE);
        e.lay(t, 1, 0, 0, 2, 2, 0);
        e.plan(t, "wait 1;", 1);
        int[][] due = {{0, 0}, {47, 0}, {48, 1}, {49, 1}, {50, 1}, {51, 1}, {52, 0}, {95, 0}};
        for (int[] d : due) {
            e.is("judge(" + d[0] + ")", t.judge(d[0]), NONE);
            e.is("BUSY from " + d[0], t.judged(2), d[1]);
            e.is("the first from " + d[0], t.judged(3), d[1] == 1 ? 0 : NONE);
        }
        e.lay(t, 0, 0, 0, 1, 1, 0);
        t.judge(48);
        e.is("a CELL of b is enough", t.judged(2), 1);
        e.lay(t, 0, 1, 0, 2, 1, 0);
        t.judge(48);
        e.is("beside it none is", t.judged(2), 0);
        e.lay(t, 1, 2, 0, 2, 2, 0);
        t.judge(48);
        e.is("below it none is", t.judged(2), 0);
        e.lay(t, 1, 0, 0, 0, 1, 0);
        t.judge(48);
        e.is("two at once are one QUARTER", t.judged(2), 1);
        e.lay(t, 0, 0, 0, 2, 2, 0);
        e.plan(t, "slide a east;slide a west;slide a east;slide a west;", 4);
        e.is("judge(48)", t.judge(48), NONE);
        e.is("BUSY: 49 and 51, as all lie when it begins", t.judged(2), 2);
        e.is("the first", t.judged(3), 1);
        e.is("judge(47)", t.judge(47), NONE);
        e.is("BUSY: 48 and 50", t.judged(2), 2);
        e.is("the first", t.judged(3), 1);
        e.is("judge(51)", t.judge(51), NONE);
        e.is("BUSY: it comes at the end of 51", t.judged(2), 0);
        RaftTown none = e.town("row 0;raft a 1 1 0 0 0;");
        e.plan(none, "wait 96;", 1);
        none.judge(0);
        e.is("no square", none.judged(2), 0);
        e.is("no square", none.judged(3), NONE);
        RaftTown no_raft = e.town("row 0;square 0 0 1 1;");
        e.plan(no_raft, "wait 96;", 1);
        no_raft.judge(0);
        e.is("no RAFT", no_raft.judged(2), 0);
    }

    private void busyDays() {
        e.sentence("(48 to 51 of each 96)");
        RaftTown t = e.town(SQUARE);
        e.lay(t, 1, 1, 0, 2, 2, 0);
        e.plan(t, "wait 96;wait 96;wait 96;", 3);
        t.judge(0);
        e.is("three days", t.judged(2), 12);
        e.is("the first", t.judged(3), 48);
        t.judge(50);
        e.is("50, 51, then 4, 4 and 48, 49", t.judged(2), 12);
        e.is("the first", t.judged(3), 0);
        t.judge(52);
        e.is("the first", t.judged(3), 92);
        e.plan(t, "wait 92;", 1);
        t.judge(52);
        e.is("52 to 143", t.judged(2), 0);
        e.plan(t, "wait 93;", 1);
        t.judge(52);
        e.is("52 to 144", t.judged(2), 1);
        // The ACT that is WRONG takes no QUARTER, so that none is BUSY by it.
        e.plan(t, "slide a west;slide a west;", 2);
        e.is("judge(50)", t.judge(50), 1);
        e.is("50 alone", t.judged(2), 1);
        e.plan(t, "turn a;", 1);
        e.is("judge(50)", t.judge(50), 0);
        e.is("none", t.judged(2), 0);
        e.is("none", t.judged(3), NONE);
    }

    private void tooMany() {
        e.sentence("TOO MANY: the first ACT without which no other one is WRONG.");
        RaftTown t = e.town("row 000;tide 1 0;raft a 1 1 1 0 0;");
        e.plan(t, "slide a west;", 1);
        e.is("the only one", t.tooMany(40), 0);
        e.plan(t, "slide a east;slide a east;slide a east;", 3);
        e.is("of like ones the first, not the WRONG one", t.tooMany(40), 0);
        e.plan(t, "slide a east;slide a west;slide a west;", 3);
        e.is("without 0 there are two; without 1 none", t.tooMany(40), 1);
        e.plan(t, "wait 1;slide a east;slide a east;slide a west;slide a west;slide a west;", 6);
        e.is("the first of those to the west", t.tooMany(40), 3);
        e.plan(t, "slide a north;slide a south;", 2);
        e.is("two are WRONG", t.tooMany(40), NONE);
        e.plan(t, "slide a east;slide a east;slide a north;slide a west;slide a south;", 5);
        e.is("two are WRONG", t.tooMany(40), NONE);
        e.plan(t, "slide a east;wait 1;slide a west;", 3);
        e.is("begun in 2 it comes into hour 1 by the 'wait'", t.judge(2), 2);
        e.is("tooMany(2)", t.tooMany(2), 1);
        e.plan(t, "wait 3;slide a east;", 2);
        e.is("the 'wait' brings it out of hour 1", t.judge(5), NONE);
        e.is("so not the 'wait'", t.tooMany(5), 1);
        e.plan(t, "slide a east;slide a east;", 2);
        e.is("none is WRONG: the first that can be left out", t.tooMany(40), 0);
    }

    private void instead() {
        e.sentence("INSTEAD: the first SLIDE or TURN that, done otherwise (another SIDE, or a TURN; the lesser: north, east, south, west, TURN), leaves no ACT WRONG.");
        RaftTown t = e.town("row 000;row 000;row 000;raft a 1 1 0 1 1;");
        String[] sides = {"north", "east", "south", "west"};
        for (int side = 0; side < 4; side++) {
            e.plan(t, "slide a " + sides[side] + ";", 1);
            e.is("not as it is done: " + sides[side], t.instead(0), side == 0 ? 1 : 0);
        }
        e.plan(t, "turn a;", 1);
        e.is("a TURN as a SLIDE", t.instead(0), 0);
        RaftTown tight = e.town("row 0;raft a 1 1 0 0 0;pole 0 0;");
        e.plan(tight, "slide a north;", 1);
        e.is("a SLIDE as a TURN, the last", tight.instead(0), 4);
        e.plan(tight, "turn a;", 1);
        e.is("nothing else can be", tight.instead(0), NONE);
        e.plan(tight, "wait 3;slide a west;wait 2;", 3);
        e.is("10 times 1 and 4", tight.instead(0), 14);
        e.plan(tight, "wait 3;", 1);
        e.is("a 'wait' is never done otherwise", tight.instead(0), NONE);
        e.plan(tight, "slide a north;slide a north;", 2);
        e.is("one alone is not enough", tight.instead(0), NONE);
        RaftTown row = e.town("row 000;raft a 1 1 0 0 0;");
        e.plan(row, "slide a east;slide a east;slide a east;", 3);
        e.is("0 can't be otherwise; 1 as west", row.instead(0), 13);
        e.plan(row, "slide a east;slide a east;slide a west;slide a west;slide a west;", 5);
        e.is("2 as east would be WRONG; 3 as east", row.instead(0), 31);
        e.plan(row, "slide a west;slide a west;", 2);
        e.is("0 as east", row.instead(0), 1);
        e.plan(t, "slide a north;".repeat(50), 50);
        e.is("none", t.instead(0), NONE);
        e.tellLagoon(row, "row 000;raft a 1 1 0 0 0;pole 0 0;");
        e.plan(row, "turn a;".repeat(58) + "slide a east;slide a north;", 60);
        e.is("ACT 59 as east", row.instead(0), 591);
        RaftTown other = e.town("row 00;raft a 1 1 0 0 0;raft b 1 1 0 1 0;");
        e.plan(other, "slide b west;", 1);
        e.is("none for b", other.instead(0), NONE);
    }

    private void promise16() {
        e.section("Promise 16: plan");
        RaftTown t = e.town(PAIR);
        e.sentence("The tape is the PLAN now: how many ACTS");
        e.plan(t, "wait 5;turn b;", 2);
        e.is("count(6)", t.count(6), 2);
        e.is("count(7)", t.count(7), 0);
        e.plan(t, "slide b north;", 1);
        e.is("count(6)", t.count(6), 1);
        e.is("act(0, 0)", t.act(0, 0), 0);
        e.is("act(0, 1)", t.act(0, 1), 1);
        e.plan(t, "", 0);
        e.is("count(6)", t.count(6), 0);

        e.sentence("-1 less the place of a FAULT: it stays.");
        e.plan(t, "wait 5;turn b;", 2);
        e.planFaulty(t, "@x", 1);
        e.planFaulty(t, "slide a east;slide b east;slide a east;wait @0;", 2);
        e.is("count(6)", t.count(6), 2);
        e.is("count(7)", t.count(7), 0);
        int[][] due = {{5, 5}, {4, 1}};
        for (int i = 0; i < 2; i++) for (int what = 0; what < 2; what++) e.is("act(" + i + ", " + what + ")", t.act(i, what), due[i][what]);
    }

    private void promise17() {
        e.section("Promise 17: act");
        RaftTown t = e.town(PAIR);
        e.plan(t, "slide b north;slide a east;slide b south;slide a west;turn b;wait 96;", 6);
        e.sentence("Of ACT i: 0 what (0 to 4 as for move(), 5 wait), 1 the RAFT (N of wait).");
        int[][] due = {{0, 1}, {1, 0}, {2, 1}, {3, 0}, {4, 1}, {5, 96}};
        for (int i = 0; i < 6; i++) for (int what = 0; what < 2; what++) e.is("act(" + i + ", " + what + ")", t.act(i, what), due[i][what]);

        e.sentence("NoSuchElementException: no such ones.");
        int[][] none = {{6, 0}, {-1, 0}, {60, 0}, {0, 2}, {0, -1}, {LOW, 0}, {HIGH, 0}, {0, LOW}, {0, HIGH}};
        for (int[] n : none) e.noAct(t, n[0], n[1]);
        e.plan(t, "wait 1;".repeat(60), 60);
        e.is("act(59, 1)", t.act(59, 1), 1);
        e.noAct(t, 60, 0);
    }

    private void promise18() {
        e.section("Promise 18: judge");
        RaftTown t = e.town("row 000;raft a 1 1 0 0 0;pole 0 0;");
        e.sentence("The PLAN is done, begun in a QUARTER: the first ACT that is WRONG");
        e.plan(t, "slide a west;slide a west;", 2);
        e.is("the first", t.judge(0), 0);
        e.plan(t, "slide a east;slide a east;slide a east;slide a north;", 4);
        e.is("the third", t.judge(95), 2);
        e.plan(t, "turn a;".repeat(58) + "slide a east;slide a south;", 60);
        e.is("the last of 60", t.judge(0), 59);

        e.sentence("NONE: none");
        e.plan(t, "slide a east;slide a east;", 2);
        e.is("judge(0)", t.judge(0), NONE);
        e.is("judge(95)", t.judge(95), NONE);
        e.plan(t, "", 0);
        e.is("of no ACTS", t.judge(0), NONE);

        e.sentence("-2: no such QUARTER.");
        for (int quarter : new int[] {-1, 96, LOW, HIGH}) e.is("judge(" + quarter + ")", t.judge(quarter), -2);
    }

    private void promise19() {
        e.section("Promise 19: judged");
        e.sentence("Of the latest judge() that was not -2, at its end: 0 why it was WRONG (0: it was not), 1 QUARTERS since it began, 2 BUSY, "
                + "3 the first of these (since it began; NONE: none), 4 MET.");
        RaftTown t = e.town("row 0004;tide 9 0;raft a 1 1 2 0 0;square 1 0 1 1;lies a 0 0 3;lies a 1 0 20;lies a 2 0 50;");
        e.plan(t, "slide a east;wait 9;slide a east;slide a east;", 4);
        e.is("judge(45)", t.judge(45), 3);
        judgedIs(t, 5, 11, 4, 3, 50);
        e.is("judge(48)", t.judge(48), 3);
        judgedIs(t, 5, 11, 3, 1, 50);
        e.is("judge(36), aground in hour 9", t.judge(36), 0);
        judgedIs(t, 1, 0, 0, NONE, 3);
        e.is("judge(35)", t.judge(35), 3);
        judgedIs(t, 5, 11, 0, NONE, 50);
        e.is("judge(27)", t.judge(27), 2);
        judgedIs(t, 1, 10, 0, NONE, 20);
        e.is("judge(96)", t.judge(96), -2);
        judgedIs(t, 1, 10, 0, NONE, 20);
        e.plan(t, "wait 4;", 1);
        e.lay(t, 1, 0, 0);
        judgedIs(t, 1, 10, 0, NONE, 20);
        e.is("judge(47)", t.judge(47), NONE);
        judgedIs(t, 0, 4, 3, 1, 20);
        e.is("tooMany() is no judge()", t.tooMany(0), 0);
        e.is("instead() is no judge()", t.instead(0), NONE);
        judgedIs(t, 0, 4, 3, 1, 20);
        e.tellLagoon(t, "row 0;");
        judgedIs(t, 0, 4, 3, 1, 20);

        e.sentence("NONE for another what, or ahead of any.");
        for (int what : new int[] {-1, 5, LOW, HIGH}) e.is("judged(" + what + ")", t.judged(what), NONE);
        RaftTown fresh = e.town("row 0;raft a 1 1 0 0 0;lies a 0 0 5;");
        for (int what = 0; what < 5; what++) e.is("judged(" + what + ")", fresh.judged(what), NONE);
        fresh.judge(-1);
        fresh.judge(96);
        for (int what = 0; what < 5; what++) e.is("judged(" + what + ") behind -2", fresh.judged(what), NONE);
        fresh.judge(0);
        judgedIs(fresh, 0, 0, 0, NONE, 5);
    }

    private void judgedIs(RaftTown t, int... due) {
        for (int what = 0; what < 5; what++) e.is("judged(" + what + ")", t.judged(what), due[what]);
    }

    private void promise20() {
        e.section("Promise 20: judgedAt");
        e.sentence("Of RAFT r at its end: 0 X, 1 Y, 2 turned.");
        RaftTown t = e.town("row 0000;row 0000;row 0000;raft a 2 1 0 0 0;raft b 1 1 0 3 2;pole 0 0;pole 3 2;");
        e.plan(t, "turn a;slide a east;slide a south;turn b;slide b south;slide b west;", 6);
        e.is("judge(0)", t.judge(0), 4);
        judgedAt(t, 0, 1, 1, 1);
        judgedAt(t, 1, 3, 2, 0);
        e.lay(t, 2, 0, 0, 0, 2, 0);
        judgedAt(t, 0, 1, 1, 1);

        e.sentence("NONE: no such ones of that LAGOON, or ahead of any.");
        e.tellLagoon(t, "row 0;raft z 1 1 0 0 0;");
        judgedAt(t, 0, 1, 1, 1);
        judgedAt(t, 1, 3, 2, 0);
        int[][] none = {{2, 0}, {-1, 0}, {8, 0}, {0, 3}, {0, -1}, {LOW, 0}, {HIGH, 0}, {0, LOW}, {0, HIGH}};
        for (int[] n : none) e.is("judgedAt(" + n[0] + ", " + n[1] + ")", t.judgedAt(n[0], n[1]), NONE);
        t.judge(0);
        judgedAt(t, 0, 0, 0, 0);
        e.is("judgedAt(1, 0)", t.judgedAt(1, 0), NONE);
        t.lagoon();
        t.judge(0);
        e.is("of no RAFTS", t.judgedAt(0, 0), NONE);
        RaftTown fresh = e.town("row 0;raft z 1 1 0 0 0;");
        e.is("ahead of any", fresh.judgedAt(0, 0), NONE);
        fresh.judge(96);
        e.is("behind -2", fresh.judgedAt(0, 0), NONE);
    }

    private void judgedAt(RaftTown t, int r, int x, int y, int turned) {
        e.is("judgedAt(" + r + ", 0)", t.judgedAt(r, 0), x);
        e.is("judgedAt(" + r + ", 1)", t.judgedAt(r, 1), y);
        e.is("judgedAt(" + r + ", 2)", t.judgedAt(r, 2), turned);
    }

    private void promise21() {
        e.section("Promise 21: tooMany");
        RaftTown t = e.town("row 000;tide 23 0;raft a 1 1 1 1 0;");
        e.sentence("TOO MANY, begun in a QUARTER: the ACT");
        e.plan(t, "slide a east;slide a east;slide a west;", 3);
        e.is("tooMany(0)", t.tooMany(0), 0);
        e.plan(t, "wait 4;slide a east;slide a north;", 3);
        e.is("tooMany(0)", t.tooMany(0), 2);
        e.is("tooMany(88): ACT 1 is in hour 23", t.tooMany(88), NONE);
        e.is("tooMany(95)", t.tooMany(95), 2);

        e.sentence("NONE: there is none");
        e.plan(t, "slide a north;slide a south;", 2);
        e.is("tooMany(0)", t.tooMany(0), NONE);
        e.plan(t, "", 0);
        e.is("of no ACTS", t.tooMany(0), NONE);

        e.sentence("-2: no such QUARTER.");
        for (int quarter : new int[] {-1, 96, LOW, HIGH}) e.is("tooMany(" + quarter + ")", t.tooMany(quarter), -2);
    }

    private void promise22() {
        e.section("Promise 22: instead");
        RaftTown t = e.town("row 000;tide 23 0;raft a 1 1 1 1 0;");
        e.sentence("INSTEAD, begun in a QUARTER: 10 times the ACT and how");
        e.plan(t, "slide a north;", 1);
        e.is("instead(0)", t.instead(0), 1);
        e.is("instead(91)", t.instead(91), 1);
        e.plan(t, "slide a west;wait 1;slide a north;", 3);
        e.is("ACT 2 as east", t.instead(0), 21);

        e.sentence("NONE: there is none");
        e.plan(t, "slide a north;", 1);
        e.is("in hour 23", t.instead(92), NONE);
        e.is("in hour 23", t.instead(95), NONE);
        e.plan(t, "slide a north;slide a north;", 2);
        e.is("instead(0)", t.instead(0), NONE);
        e.plan(t, "", 0);
        e.is("of no ACTS", t.instead(0), NONE);

        e.sentence("-2: no such QUARTER.");
        for (int quarter : new int[] {-1, 96, LOW, HIGH}) e.is("instead(" + quarter + ")", t.instead(quarter), -2);
    }
}

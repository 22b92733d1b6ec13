import java.util.NoSuchElementException;

/** Each promise by hand: ordinary inputs, the edges that the document names, wrong inputs. */
public final class PromisesTest {
    private static final int NONE = RaftTown.NONE;
    private static final int EVERY_HOUR = (1 << 24) - 1;
    private static int wrong;
    private static int checks;
    private static String promise = "";

    public static void main(String[] args) {
        newObject();
        tape();
        lagoonLines();
        lagoonTokens();
        lagoonNumbers();
        lagoonNames();
        lagoonTooMany();
        lagoonTooLong();
        faultStays();
        waterAndRafts();
        laying();
        groundings();
        gaps();
        slides();
        turns();
        whyWrong();
        wishes();
        plans();
        planFaults();
        judging();
        busyQuarters();
        judgedOfThatLagoon();
        tooManyActs();
        insteadActs();
        leastActs();
        leastWithWalls();
        changedPlaces();
        aloneActs();
        bestTowns();
        allWants();
        couldLie();
        storms();
        cuts();
        images();
        counts();
        System.out.println(checks + " checks by hand, wrong: " + wrong);
        if (wrong > 0) System.exit(1);
    }

    private static void is(String call, long got, long want) {
        checks++;
        if (got != want) {
            wrong++;
            System.out.println(promise + ": " + call + " answered " + got + ", due is " + want);
        }
    }

    private static void is(String call, boolean got, boolean want) { is(call, got ? 1 : 0, want ? 1 : 0); }

    private static RaftTown town(String text) {
        RaftTown t = new RaftTown();
        Tape.text(t, text);
        int lines = t.lagoon();
        if (lines < 0) {
            wrong++;
            System.out.println(promise + ": a test's own LAGOON has a FAULT " + t.fault() + " at " + (-1 - lines) + ": " + text);
        }
        return t;
    }

    private static void planIs(RaftTown t, String text, int acts) {
        Tape.text(t, text);
        is("plan() of " + text, t.plan(), acts);
    }

    /** The LAGOON's text has a FAULT of a kind where the sign '@' stands, which is left out. */
    private static void faulty(String marked, int kind) {
        int place = marked.indexOf('@');
        String text = marked.replace("@", "");
        RaftTown t = new RaftTown();
        Tape.text(t, text);
        is("lagoon() of " + text, t.lagoon(), -1 - place);
        is("fault() of " + text, t.fault(), kind);
        is("count(1) after it", t.count(1), 0);
        is("count(7) after it", t.count(7), 0);
    }

    private static void sound(String text, int lines) {
        RaftTown t = new RaftTown();
        Tape.text(t, text);
        is("lagoon() of " + text, t.lagoon(), lines);
        is("fault() of " + text, t.fault(), 0);
    }

    private static void noRaft(RaftTown t, int r, int what) {
        boolean thrown = false;
        try { t.raft(r, what); } catch (NoSuchElementException e) { thrown = true; }
        is("raft(" + r + ", " + what + ") throws", thrown, true);
    }

    private static void noAct(RaftTown t, int i, int what) {
        boolean thrown = false;
        try { t.act(i, what); } catch (NoSuchElementException e) { thrown = true; }
        is("act(" + i + ", " + what + ") throws", thrown, true);
    }

    private static void raftAt(RaftTown t, int r, int x, int y, int turned) {
        is("raft(" + r + ", 0)", t.raft(r, 0), x);
        is("raft(" + r + ", 1)", t.raft(r, 1), y);
        is("raft(" + r + ", 5)", t.raft(r, 5), turned);
    }

    private static void foundIs(RaftTown t, int... acts) {
        for (int i = 0; i < acts.length; i++) is("found(" + i + ")", t.found(i), acts[i]);
        is("found(" + acts.length + ")", t.found(acts.length), NONE);
        is("found(-1)", t.found(-1), NONE);
    }

    private static void newObject() {
        promise = "1";
        RaftTown t = new RaftTown();
        for (int what = 0; what < 8; what++) is("count(" + what + ")", t.count(what), 0);
        is("NONE", RaftTown.NONE, -1);
        is("fault()", t.fault(), 0);
        is("judged(0)", t.judged(0), NONE);
        is("judgedAt(0, 0)", t.judgedAt(0, 0), NONE);
        is("found(0)", t.found(0), NONE);
        is("left()", t.left(), NONE);
        is("allAt(0, 0)", t.allAt(0, 0), NONE);
        is("lay()", t.lay(), true);
        is("least(0)", t.least(0), 0);
        is("best(0, 0)", t.best(0, 0), 0);
        is("all()", t.all(), 0);
        is("left()", t.left(), 0);
        is("lagoon()", t.lagoon(), 0);
        is("plan()", t.plan(), 0);
        is("judge(0)", t.judge(0), NONE);
        is("judged(3)", t.judged(3), NONE);
        is("changed(0, 0, 0)", t.changed(0, 0, 0), -2);
        is("alone(0, 0, 0, 0, 0)", t.alone(0, 0, 0, 0, 0), -2);
    }

    private static void tape() {
        promise = "2, 3";
        RaftTown t = new RaftTown();
        for (int i = 1; i <= 47; i++) is("feed", t.feed(0x20202020, 0x20202020, 0x20202020, 0x20202020, 0x20202020), 20 * i);
        is("feed beyond 940", t.feed(1, 2, 3, 4, 5), NONE);
        is("count(7)", t.count(7), 940);
        is("end(941)", t.end(941), false);
        is("end(-1)", t.end(-1), false);
        is("end(940)", t.end(940), true);
        is("end(921)", t.end(921), true);
        is("feed", t.feed(1, 2, 3, 4, 5), NONE);
        is("end(920)", t.end(920), true);
        is("feed", t.feed(1, 2, 3, 4, 5), 940);
        is("end(0)", t.end(0), true);
        is("end(1)", t.end(1), false);
        // 'row ' '01;\n' and blanks: of each number the highest byte first.
        is("feed", t.feed(0x726f7720, 0x30313b0a, 0x20202020, 0x20202020, 0x20202020), 20);
        is("lagoon()", t.lagoon(), 1);
        is("count(7)", t.count(7), 0);
        is("water(0, 0, 0)", t.water(0, 0, 0), 5);
        is("water(1, 0, 0)", t.water(1, 0, 0), 4);
    }

    private static final String TWO_ROWS = "row 000;row 000;";
    private static final String TWO_RAFTS = TWO_ROWS + "raft a 1 1 0 0 0;raft b 1 1 0 2 1;";

    private static void lagoonLines() {
        promise = "4";
        sound("", 0);
        sound(" \n ", 0);
        sound("row 0;", 1);
        sound("\nrow\n00000001 ; tide 0 9;tide 23 0;", 3);
        sound("row 00000000;".repeat(8), 8);
        sound(TWO_RAFTS + "row 123;rope a b 1 1;moor a 1;moor b 99;beside a b 1;apart b a 99;sun a north 5;lies b 2 2 5;square 0 0 3 3;pole 2 2;", 14);
        sound(TWO_ROWS + "raft rows 1 1 0 0 0;raft tides 1 1 0 1 0;raft e 3 1 9 0 1;", 5);
        sound("tide 00000003 00000004;", 1);
        sound(TWO_RAFTS + "rope a b 9 99;", 5);
        sound(TWO_RAFTS + "square 2 1 1 1;", 5);
        RaftTown t = town(TWO_RAFTS);
        Tape.text(t, "wait 3;");
        t.plan();
        t.move(0, 1, 0);
        Tape.text(t, TWO_RAFTS);
        is("lagoon()", t.lagoon(), 4);
        is("count(6), no PLAN", t.count(6), 0);
        raftAt(t, 0, 0, 0, 0);
        Tape.text(t, "wait 3;");
        t.plan();
        t.move(0, 1, 0);
        Tape.text(t, "row 0;x");
        is("lagoon()", t.lagoon(), -7);
        is("it stays: count(6)", t.count(6), 1);
        raftAt(t, 0, 1, 0, 0);
        is("lagoon(), an empty one", t.lagoon(), 0);
        is("count(2)", t.count(2), 0);
        is("count(0)", t.count(0), 0);
    }

    private static void lagoonTokens() {
        promise = "4, FAULT 1";
        faulty("@x;", 1);
        faulty("@;", 1);
        faulty("@5;", 1);
        faulty("row@", 1);
        faulty("row @;", 1);
        faulty("row @x;", 1);
        faulty("row 0@", 1);
        faulty("row 0  @", 1);
        faulty("row 0 @1;", 1);
        faulty("row @123456789;", 1);
        faulty("row @1a;", 1);
        faulty("@row1;", 1);
        faulty("@rows;", 1);
        faulty("@rowwwww 0;", 1);
        faulty("row@\t0;", 1);
        faulty("row 0@.", 1);
        faulty("row 0;@;", 1);
        faulty("row@A 0;", 1);
        faulty("row 0;@\u00e9", 1);
        faulty("@slide a north;", 1);
        faulty("@north;", 1);
        faulty("tide @a;", 1);
        faulty("tide 1@;", 1);
        faulty(TWO_ROWS + "raft @1 1 1 0 0 0;", 1);
        faulty(TWO_ROWS + "raft @row 1 1 0 0 0;", 1);
        faulty(TWO_ROWS + "raft @wait 1 1 0 0 0;", 1);
        faulty(TWO_ROWS + "raft @abcdefg 1 1 0 0 0;", 1);
        faulty(TWO_ROWS + "raft a 1 1 0 0 @;", 1);
        faulty(TWO_RAFTS + "rope @row a 1 1;", 1);
        faulty(TWO_RAFTS + "rope a @east 1 1;", 1);
        faulty(TWO_RAFTS + "sun a @up 1;", 1);
        faulty(TWO_RAFTS + "sun a @b 1;", 1);
        faulty(TWO_RAFTS + "sun a @row 1;", 1);
        faulty(TWO_RAFTS + "sun a @1;", 1);
        faulty(TWO_RAFTS + "beside a b 1 @1;", 1);
        faulty(TWO_RAFTS + "square 0 0 1@;", 1);
    }

    private static void lagoonNumbers() {
        promise = "4, FAULT 2";
        faulty("row 000;row @00;", 2);
        faulty("row 000;row @0000;", 2);
        faulty("tide @24 1;", 2);
        faulty("tide 1 @10;", 2);
        faulty("pole @0 0;", 2);
        faulty(TWO_ROWS + "raft a @0 1 0 0 0;", 2);
        faulty(TWO_ROWS + "raft a @4 1 0 0 0;", 2);
        faulty(TWO_ROWS + "raft a 1 @4 0 0 0;", 2);
        faulty(TWO_ROWS + "raft a 1 1 @10 0 0;", 2);
        faulty(TWO_ROWS + "raft a 1 1 0 @3 0;", 2);
        faulty(TWO_ROWS + "raft a 1 1 0 0 @2;", 2);
        faulty(TWO_ROWS + "raft a 2 1 0 2 @0;", 2);
        faulty(TWO_ROWS + "raft a 1 2 0 0 @1;row 000;", 2);
        faulty(TWO_ROWS + "raft a 1 1 0 1 0;raft b 3 1 0 1 @0;", 2);
        faulty(TWO_ROWS + "pole @3 0;", 2);
        faulty(TWO_ROWS + "pole 2 @2;", 2);
        faulty(TWO_RAFTS + "rope a b @0 5;", 2);
        faulty(TWO_RAFTS + "rope a b @10 5;", 2);
        faulty(TWO_RAFTS + "rope a b 1 @0;", 2);
        faulty(TWO_RAFTS + "rope a b 1 @100;", 2);
        faulty(TWO_RAFTS + "moor a @0;", 2);
        faulty(TWO_RAFTS + "moor a @100;", 2);
        faulty(TWO_RAFTS + "beside a b @0;", 2);
        faulty(TWO_RAFTS + "apart a b @100;", 2);
        faulty(TWO_RAFTS + "sun a west @100;", 2);
        faulty(TWO_RAFTS + "lies a @3 0 1;", 2);
        faulty(TWO_RAFTS + "lies a 0 @2 1;", 2);
        faulty(TWO_RAFTS + "lies a 0 0 @0;", 2);
        faulty(TWO_ROWS + "square @3 0 1 1;", 2);
        faulty(TWO_ROWS + "square 0 @2 1 1;", 2);
        faulty(TWO_ROWS + "square 0 0 @0 1;", 2);
        faulty(TWO_ROWS + "square 0 0 @9 1;", 2);
        faulty(TWO_ROWS + "square 0 0 1 @9;", 2);
        faulty(TWO_ROWS + "square 0 0 4 @1;", 2);
        faulty(TWO_ROWS + "square 0 0 1 @3;", 2);
        faulty(TWO_ROWS + "square 1 0 3 @1;", 2);
    }

    private static void lagoonNames() {
        promise = "4, FAULT 3";
        faulty("tide 1 1;tide @1 2;", 3);
        faulty(TWO_ROWS + "raft a 1 1 0 0 0;raft @a 1 1 0 1 0;", 3);
        faulty(TWO_ROWS + "raft a 1 1 0 0 0;raft b 1 1 0 0 @0;", 3);
        faulty(TWO_ROWS + "raft a 2 2 0 0 0;raft b 2 1 0 1 @1;", 3);
        faulty(TWO_ROWS + "pole 1 1;pole 0 1;pole 1 @1;", 3);
        faulty(TWO_RAFTS + "rope @c a 1 1;", 3);
        faulty(TWO_RAFTS + "rope a @c 1 1;", 3);
        faulty(TWO_RAFTS + "rope a @a 1 1;", 3);
        faulty(TWO_RAFTS + "rope a b 1 1;rope b @a 1 1;", 3);
        faulty(TWO_RAFTS + "rope a b 1 1;rope a @b 1 1;", 3);
        faulty(TWO_RAFTS + "moor a 1;moor b 1;moor @a 1;", 3);
        faulty(TWO_RAFTS + "moor @z 1;", 3);
        faulty(TWO_RAFTS + "beside a @a 1;", 3);
        faulty(TWO_RAFTS + "apart b @b 1;", 3);
        faulty(TWO_RAFTS + "sun @c west 1;", 3);
        faulty(TWO_RAFTS + "lies @c 0 0 1;", 3);
        faulty(TWO_ROWS + "square 0 0 1 1;@square 1 1 1 1;", 3);
        faulty(TWO_ROWS + "rope @a a 1 1;", 3);
    }

    private static void lagoonTooMany() {
        promise = "4, FAULT 4";
        faulty("row 0;".repeat(8) + "@row 0;", 4);
        faulty("row 0;".repeat(8) + "@row x;", 4);
        String rafts = "row 00000000;row 00000000;";
        for (int i = 0; i < 8; i++) rafts += "raft " + (char) ('a' + i) + " 1 1 0 " + i + " 0;";
        sound(rafts, 10);
        faulty(rafts + "@raft z 1 1 0 0 1;", 4);
        String poles = "";
        for (int i = 0; i < 6; i++) poles += "pole " + i + " 0;";
        sound(rafts + poles, 16);
        faulty(rafts + poles + "@pole 0 0;", 4);
        String ropes = "";
        for (int i = 0; i < 7; i++) ropes += "rope " + (char) ('a' + i) + " " + (char) ('b' + i) + " 0 1;";
        sound(rafts + ropes + "rope a c 1 1;", 18);
        faulty(rafts + ropes + "rope a c 1 1;@rope a d 9 1;", 4);
        sound(rafts + "sun a east 1;".repeat(10), 20);
        faulty(rafts + "sun a east 1;".repeat(10) + "@sun a east 1;", 4);
        faulty(rafts + "sun a east 1;".repeat(10) + "@lies a 0 0 1;", 4);
        faulty(rafts + "sun a east 1;".repeat(10) + "@beside a b 1;", 4);
        faulty(rafts + "sun a east 1;".repeat(10) + "@apart a b 1;", 4);
    }

    private static void lagoonTooLong() {
        promise = "4, more than 900 bytes";
        String blanks = " ".repeat(900 - 6);
        sound("row 0;" + blanks, 1);
        faulty("row 0;" + blanks + "@ ", 1);
        faulty("row 0;" + blanks + "@ x", 1);
        faulty("row 0;" + blanks + "@tide 1 1;", 1);
        faulty("row 0;@x" + blanks + "    ", 1);
        // A WORD that begins ahead of 900 is read whole, and is what it is then.
        faulty("row 0;" + " ".repeat(892) + "ti@de 1 1;", 1);
        faulty("row 0;" + " ".repeat(892) + "@tides 1 1;", 1);
        faulty("row 0;" + " ".repeat(887) + "tide 1 @12;", 1);
        faulty("row 0;" + " ".repeat(886) + "tide 1 @12;", 2);
        faulty("row 0;" + " ".repeat(886) + "tide @24 12;", 2);
        faulty("row 0;" + " ".repeat(885) + "tide 1 02@;", 1);
    }

    private static void faultStays() {
        promise = "5";
        RaftTown t = town(TWO_RAFTS);
        is("fault()", t.fault(), 0);
        Tape.text(t, "tide 24 1;");
        t.lagoon();
        is("fault()", t.fault(), 2);
        is("fault() again", t.fault(), 2);
        t.move(0, 1, 0);
        is("fault() behind other calls", t.fault(), 2);
        planIs(t, "wait 1;", 1);
        is("fault()", t.fault(), 0);
        planIs(t, "turn z;", -6);
        is("fault()", t.fault(), 3);
        t.image(0);
        t.restore(0);
        is("fault() behind restore()", t.fault(), 3);
    }

    private static void waterAndRafts() {
        promise = "6, 7, 8";
        RaftTown t = town("row 0129;row 3333;tide 4 2;tide 5 9;raft a 2 1 3 1 0;raft b 1 2 9 3 0;raft c 1 1 0 0 1;");
        is("water", t.water(0, 0, 0), 5);
        is("water", t.water(2, 0, 23), 3);
        is("water", t.water(3, 0, 0), 0);
        is("water", t.water(2, 0, 4), 0);
        is("water", t.water(3, 1, 4), 0);
        is("water", t.water(1, 0, 4), 1);
        is("water", t.water(3, 0, 5), 0);
        is("water", t.water(0, 1, 5), 6);
        is("water", t.water(4, 0, 0), NONE);
        is("water", t.water(-1, 0, 0), NONE);
        is("water", t.water(0, 2, 0), NONE);
        is("water", t.water(0, -1, 0), NONE);
        is("water", t.water(0, 0, 24), NONE);
        is("water", t.water(0, 0, -1), NONE);
        int[][] due = {{1, 0, 2, 1, 3, 0}, {3, 0, 1, 2, 9, 0}, {0, 1, 1, 1, 0, 0}};
        for (int r = 0; r < 3; r++) for (int what = 0; what < 6; what++) is("raft(" + r + ", " + what + ")", t.raft(r, what), due[r][what]);
        noRaft(t, 3, 0);
        noRaft(t, -1, 0);
        noRaft(t, 0, 6);
        noRaft(t, 0, -1);
        noRaft(t, Integer.MAX_VALUE, Integer.MIN_VALUE);
        int[][] at = {{NONE, 0, 0, 1}, {2, NONE, NONE, 1}};
        for (int y = 0; y < 2; y++) for (int x = 0; x < 4; x++) is("at(" + x + ", " + y + ")", t.at(x, y), at[y][x]);
        is("at", t.at(4, 0), NONE);
        is("at", t.at(0, 2), NONE);
        is("at", t.at(-1, 0), NONE);
        is("at", t.at(0, -1), NONE);
    }

    private static void laying() {
        promise = "9";
        RaftTown t = town("row 000;row 000;row 999;raft a 2 1 0 0 0;raft b 1 1 0 2 0;rope a b 0 1;");
        Tape.town(t, 1, 0, 1, 0, 2, 1);
        is("lay()", t.lay(), true);
        is("count(7)", t.count(7), 0);
        raftAt(t, 0, 1, 0, 1);
        raftAt(t, 1, 0, 2, 0);
        is("how wide", t.raft(0, 2), 1);
        is("how high", t.raft(0, 3), 2);
        int[][] not = {{2, 0, 0, 0, 2, 0}, {0, 2, 1, 1, 0, 0}, {0, 0, 2, 2, 0, 0}, {0, 0, 0, 1, 0, 0}, {3, 0, 1, 0, 0, 0}, {0, 3, 0, 0, 0, 0},
            {255, 0, 0, 0, 0, 0}, {0, 0, 0, 2, 0, 255}, {0, 0, 0, 2, 0}, {0, 0, 0, 2, 0, 0, 0}, {}};
        for (int[] town : not) {
            Tape.town(t, town);
            is("lay() of " + java.util.Arrays.toString(town), t.lay(), false);
            is("count(7)", t.count(7), 0);
            raftAt(t, 0, 1, 0, 1);
            raftAt(t, 1, 0, 2, 0);
        }
        // A rope that is too short then is of no matter.
        Tape.town(t, 0, 0, 0, 2, 2, 0);
        is("lay()", t.lay(), true);
        is("gap(0, 1)", t.gap(0, 1), 1);
    }

    private static void groundings() {
        promise = "10, 11, 12";
        RaftTown t = town("row 0122;row 0142;tide 1 3;tide 2 9;tide 3 0;raft a 2 2 2 0 0;raft b 2 2 3 2 0;");
        // Level 5: a has 5, 4, 5, 4; b has 3, 3, 1, 3.
        is("aground(0)", t.aground(0), 2);
        is("breaks(0)", t.breaks(0), 2);
        is("aground(1)", t.aground(1), 2);
        is("aground(2)", t.aground(2), 0);
        is("breaks(2)", t.breaks(2), 0);
        is("aground(3)", t.aground(3), 3);
        is("breaks(3): GROUNDS 1 apart do not break", t.breaks(3), 2);
        is("aground(24)", t.aground(24), NONE);
        is("aground(-1)", t.aground(-1), NONE);
        is("breaks(24)", t.breaks(24), NONE);
        is("breaks(-1)", t.breaks(-1), NONE);
        is("floats(0)", t.floats(0), EVERY_HOUR & ~(1 << 3));
        is("floats(1)", t.floats(1), 1 << 2);
        is("floats(2)", t.floats(2), NONE);
        is("floats(-1)", t.floats(-1), NONE);
        RaftTown high = town("row 99897988;raft a 2 1 1 0 0;raft b 2 1 1 2 0;raft c 2 1 1 4 0;raft d 1 1 1 6 0;");
        is("aground(0)", high.aground(0), 15);
        is("breaks(0): 9 and 9, 8 and 9, 7 and 9, 8 alone", high.breaks(0), 4);
        RaftTown dry = town("row 99;tide 0 0;raft a 1 1 0 0 0;raft b 1 1 1 1 0;");
        is("DRAFT 0 FLOATS on no WATER", dry.floats(0), EVERY_HOUR);
        is("floats(1)", dry.floats(1), 0);
        is("aground(0)", dry.aground(0), 2);
    }

    private static void gaps() {
        promise = "13";
        RaftTown t = town("row 00000000;".repeat(8) + "raft a 2 1 0 0 0;raft b 1 3 0 7 5;raft c 1 1 0 2 1;raft d 1 2 0 2 2;raft e 1 1 0 4 0;");
        is("gap(0, 1)", t.gap(0, 1), 5);
        is("gap(1, 0)", t.gap(1, 0), 5);
        is("gap(0, 2), corner to corner", t.gap(0, 2), 0);
        is("gap(2, 3)", t.gap(2, 3), 0);
        is("gap(0, 3)", t.gap(0, 3), 1);
        is("gap(0, 4)", t.gap(0, 4), 2);
        is("gap(3, 1)", t.gap(3, 1), 4);
        is("gap(0, 0)", t.gap(0, 0), NONE);
        is("gap(0, 5)", t.gap(0, 5), NONE);
        is("gap(-1, 0)", t.gap(-1, 0), NONE);
    }

    private static void slides() {
        promise = "14, SLIDES";
        RaftTown t = town("row 0000;row 0000;row 0000;raft a 2 1 0 1 1;");
        is("north", t.move(0, 0, 0), 0);
        raftAt(t, 0, 1, 0, 0);
        is("north", t.move(0, 0, 0), 3);
        is("east", t.move(0, 1, 0), 0);
        raftAt(t, 0, 2, 0, 0);
        is("east", t.move(0, 1, 0), 3);
        is("south", t.move(0, 2, 0), 0);
        is("south", t.move(0, 2, 0), 0);
        raftAt(t, 0, 2, 2, 0);
        is("south", t.move(0, 2, 0), 3);
        is("west", t.move(0, 3, 0), 0);
        is("west", t.move(0, 3, 0), 0);
        raftAt(t, 0, 0, 2, 0);
        is("west", t.move(0, 3, 0), 3);
        raftAt(t, 0, 0, 2, 0);
        is("no such RAFT", t.move(1, 0, 0), NONE);
        is("no such RAFT", t.move(-1, 0, 0), NONE);
        is("no such how", t.move(0, 5, 0), NONE);
        is("no such how", t.move(0, -1, 0), NONE);
        is("no such hour", t.move(0, 0, 24), NONE);
        is("no such hour", t.move(0, 0, -1), NONE);
        raftAt(t, 0, 0, 2, 0);
    }

    private static void turns() {
        promise = "14, TURNS";
        // 3 by 1 about its western CELL: it lies to the east of the POLE, then south, west, north.
        RaftTown t = town("row 00000;row 00000;row 00000;row 00000;row 00000;raft a 3 1 0 2 2;pole 2 2;");
        is("turn", t.move(0, 4, 0), 0);
        raftAt(t, 0, 2, 2, 1);
        is("turn", t.move(0, 4, 0), 0);
        raftAt(t, 0, 0, 2, 0);
        is("turn", t.move(0, 4, 0), 0);
        raftAt(t, 0, 2, 0, 1);
        is("turn", t.move(0, 4, 0), 0);
        raftAt(t, 0, 2, 2, 0);
        // 3 by 2 with the POLE under its south-eastern CELL.
        t = town("row 00000;row 00000;row 00000;row 00000;row 00000;raft a 3 2 0 0 1;pole 2 2;");
        is("turn", t.move(0, 4, 0), 0);
        raftAt(t, 0, 2, 0, 1);
        is("turn", t.move(0, 4, 0), 0);
        raftAt(t, 0, 2, 2, 0);
        is("turn", t.move(0, 4, 0), 0);
        raftAt(t, 0, 1, 2, 1);
        is("turn", t.move(0, 4, 0), 0);
        raftAt(t, 0, 0, 1, 0);
        // The first POLE told is the one, not the first along the CELLS; a square RAFT goes about it and is never turned.
        t = town("row 0000;row 0000;row 0000;row 0000;raft a 2 2 0 1 1;pole 3 3;pole 2 2;pole 1 1;");
        is("turn", t.move(0, 4, 0), 0);
        raftAt(t, 0, 2, 1, 0);
        is("turn", t.move(0, 4, 0), 0);
        raftAt(t, 0, 2, 2, 0);
        is("turn, about POLE 0 now", t.move(0, 4, 0), 3);
        t = town("row 0;raft a 1 1 0 0 0;pole 0 0;");
        is("turn on the spot", t.move(0, 4, 0), 0);
        raftAt(t, 0, 0, 0, 0);
    }

    private static void whyWrong() {
        promise = "14, WRONG";
        RaftTown t = town("row 0000;row 0500;tide 1 0;raft a 2 1 1 0 0;raft b 1 1 1 2 0;rope a b 1 1;pole 0 0;");
        is("1 ahead of 2", t.move(1, 4, 1), 1);
        is("1 ahead of 3", t.move(0, 0, 1), 1);
        is("2", t.move(1, 4, 0), 2);
        is("3", t.move(0, 0, 0), 3);
        is("4", t.move(0, 1, 0), 4);
        is("5", t.move(0, 2, 0), 5);
        is("0", t.move(1, 1, 0), 0);
        is("0", t.move(1, 2, 0), 0);
        // a turned about 0 0 lies on 0 0 and 0 1: two columns between them, one more than the rope.
        is("6", t.move(0, 4, 0), 6);
        raftAt(t, 0, 0, 0, 0);
        RaftTown four = town("row 05;row 00;raft a 1 1 1 0 0;raft b 1 1 1 1 0;rope a b 0 1;");
        is("4 ahead of 5", four.move(0, 1, 0), 4);
        RaftTown five = town("row 0050;raft a 1 1 1 0 0;raft b 1 1 1 1 0;raft c 1 1 0 3 0;rope a b 0 1;");
        is("5 ahead of 6", five.move(1, 1, 0), 5);
        // A rope that was too short stays WRONG, even if the SLIDE brings them nearer.
        RaftTown far = town("row 00000;raft a 1 1 0 0 0;raft b 1 1 0 1 0;rope b a 0 1;");
        Tape.town(far, 0, 0, 0, 4, 0, 0);
        far.lay();
        is("6", far.move(1, 3, 0), 6);
        Tape.town(far, 0, 0, 0, 2, 0, 0);
        far.lay();
        is("0", far.move(1, 3, 0), 0);
    }

    private static void wishes() {
        promise = "15";
        RaftTown t = town("row 0000;row 0000;row 0000;raft a 2 1 0 0 0;raft b 1 2 0 2 1;raft c 1 1 0 3 0;"
                + "beside a b 1;apart a b 2;beside b c 4;sun a east 8;sun a south 16;sun b north 32;lies a 1 0 64;lies b 2 0 9;sun c west 50;beside a c 3;");
        // a and b meet at a corner only; b, c: 2 1 and 3 0 do so too.
        is("wants(1)", t.wants(1), 2 + 8 + 16 + 32 + 64 + 256);
        is("wants(0)", t.wants(0), 2 + 8 + 16 + 32 + 64 + 50);
        is("move", t.move(2, 3, 0), 0);
        // c lies between on 2 0: a's east, b's north, beside both.
        is("wants(1)", t.wants(1), 2 + 4 + 16 + 64 + 512);
        is("wants(0)", t.wants(0), 2 + 4 + 16 + 64 + 3);
        is("wants(2)", t.wants(2), NONE);
        is("wants(-1)", t.wants(-1), NONE);
        RaftTown edge = town("row 00000000;row 00000000;raft a 1 1 0 7 0;raft b 1 1 0 0 1;beside a b 1;sun a east 2;sun b west 4;sun a north 8;sun b south 16;");
        is("no side is in common around the edge", edge.wants(1), 2 + 4 + 8 + 16);
        RaftTown own = town("row 000;row 000;row 000;raft a 3 3 0 0 0;sun a north 1;sun a east 2;sun a south 4;sun a west 8;");
        is("of the RAFT itself none counts", own.wants(0), 15);
    }

    private static void plans() {
        promise = "16, 17";
        RaftTown t = town(TWO_RAFTS);
        planIs(t, "slide a north;slide b east ; slide a\nsouth;slide b west;turn b;wait 1;wait 96;", 7);
        is("count(7)", t.count(7), 0);
        int[][] due = {{0, 0}, {1, 1}, {2, 0}, {3, 1}, {4, 1}, {5, 1}, {5, 96}};
        for (int i = 0; i < 7; i++) for (int what = 0; what < 2; what++) is("act(" + i + ", " + what + ")", t.act(i, what), due[i][what]);
        noAct(t, 7, 0);
        noAct(t, -1, 0);
        noAct(t, 0, 2);
        noAct(t, 0, -1);
        planIs(t, "turn", -5);
        is("it stays", t.count(6), 7);
        is("act(6, 1)", t.act(6, 1), 96);
        planIs(t, "", 0);
        is("count(6)", t.count(6), 0);
        noAct(t, 0, 0);
        planIs(t, "wait 1;".repeat(60), 60);
        is("act(59, 0)", t.act(59, 0), 5);
    }

    private static void planFault(RaftTown t, String marked, int kind) {
        planIs(t, marked.replace("@", ""), -1 - marked.indexOf('@'));
        is("fault() of " + marked, t.fault(), kind);
        is("count(6)", t.count(6), 1);
        is("count(7)", t.count(7), 0);
    }

    private static void planFaults() {
        promise = "16, FAULTS";
        RaftTown t = town(TWO_RAFTS);
        planIs(t, "wait 7;", 1);
        planFault(t, "slide a @up;", 1);
        planFault(t, "slide @row east;", 1);
        planFault(t, "slide @1 east;", 1);
        planFault(t, "slide a@", 1);
        planFault(t, "turn@;", 1);
        planFault(t, "turn a @b;", 1);
        planFault(t, "turn a@", 1);
        planFault(t, "@raft a;", 1);
        planFault(t, "@;", 1);
        planFault(t, "wait @a;", 1);
        planFault(t, "wait 1;@.", 1);
        planFault(t, "wait @0;", 2);
        planFault(t, "wait @97;", 2);
        planFault(t, "slide @z east;", 3);
        planFault(t, "turn a;turn @c;", 3);
        planFault(t, "wait 1;".repeat(60) + "@wait 1;", 4);
        planFault(t, "wait 1;".repeat(60) + "@turn z", 4);
        planFault(t, "wait 1;".repeat(60) + "@z", 1);
        planIs(t, "wait 1;" + " ".repeat(693), 1);
        planFault(t, "wait 1;" + " ".repeat(693) + "@ ", 1);
        planFault(t, "wait 1;" + " ".repeat(690) + "wai@t 1;", 1);
        planFault(t, "wait 1;" + " ".repeat(690) + "@waits 1;", 1);
        planFault(t, "wait 1;" + " ".repeat(687) + "wait @97;", 2);
    }

    private static void judging() {
        promise = "18, 19, 20";
        RaftTown t = town("row 0000;row 0000;tide 5 0;tide 6 0;raft a 1 1 1 0 0;raft b 2 1 0 2 1;lies a 1 0 7;lies a 0 0 3;pole 3 1;");
        planIs(t, "slide a east;wait 2;slide a south;turn b;slide a east;", 5);
        is("judge(96)", t.judge(96), -2);
        is("judge(-1)", t.judge(-1), -2);
        is("judged(1) ahead of any", t.judged(1), NONE);
        is("judgedAt(0, 0) ahead of any", t.judgedAt(0, 0), NONE);
        is("judge(0)", t.judge(0), NONE);
        is("why", t.judged(0), 0);
        is("quarters", t.judged(1), 6);
        is("busy without a square", t.judged(2), 0);
        is("first busy", t.judged(3), NONE);
        is("met", t.judged(4), 0);
        is("judged(5)", t.judged(5), NONE);
        is("judged(-1)", t.judged(-1), NONE);
        is("a X", t.judgedAt(0, 0), 2);
        is("a Y", t.judgedAt(0, 1), 1);
        is("b X", t.judgedAt(1, 0), 3);
        is("b Y", t.judgedAt(1, 1), 0);
        is("b turned", t.judgedAt(1, 2), 1);
        is("judgedAt(1, 3)", t.judgedAt(1, 3), NONE);
        is("judgedAt(1, -1)", t.judgedAt(1, -1), NONE);
        is("judgedAt(2, 0)", t.judgedAt(2, 0), NONE);
        is("judgedAt(-1, 0)", t.judgedAt(-1, 0), NONE);
        raftAt(t, 0, 0, 0, 0);
        raftAt(t, 1, 2, 1, 0);
        // Begun in 17 (hour 4): a slides, waits for 18 and 19, and is aground in 20 (hour 5).
        is("judge(17)", t.judge(17), 2);
        is("why", t.judged(0), 1);
        is("quarters", t.judged(1), 3);
        is("met", t.judged(4), 7);
        is("a X", t.judgedAt(0, 0), 1);
        is("a Y", t.judgedAt(0, 1), 0);
        is("judge(20)", t.judge(20), 0);
        is("met", t.judged(4), 3);
        is("quarters", t.judged(1), 0);
        // Begun in 95 the last one begins in 117, hour 5 of the next day; begun in 93 in 115, hour 4.
        planIs(t, "wait 20;slide a east;wait 1;slide a west;", 4);
        is("judge(95)", t.judge(95), 3);
        is("quarters", t.judged(1), 22);
        is("why", t.judged(0), 1);
        is("judge(93)", t.judge(93), NONE);
        is("quarters", t.judged(1), 23);
        planIs(t, "wait 96;wait 20;slide a east;", 3);
        is("judge(0)", t.judge(0), 2);
        is("quarters", t.judged(1), 116);
        is("judge(-2) keeps it", t.judge(1000), -2);
        is("quarters", t.judged(1), 116);
    }

    private static void busyQuarters() {
        promise = "19, BUSY";
        RaftTown t = town("row 0000;row 0000;raft a 2 1 0 0 0;square 2 0 2 2;");
        planIs(t, "slide a east;wait 2;slide a west;wait 9;", 4);
        // Quarter 48 begins with a outside; 49, 50 waiting on its edge, 51 still there as the slide begins.
        is("judge(48)", t.judge(48), NONE);
        is("busy", t.judged(2), 3);
        is("first", t.judged(3), 1);
        is("judge(47)", t.judge(47), NONE);
        is("busy: 48, 49, 50", t.judged(2), 3);
        is("first", t.judged(3), 1);
        is("judge(45)", t.judge(45), NONE);
        is("busy: 48, as it slides out", t.judged(2), 1);
        is("first", t.judged(3), 3);
        is("judge(44)", t.judge(44), NONE);
        is("busy", t.judged(2), 0);
        is("first", t.judged(3), NONE);
        planIs(t, "slide a east;wait 96;wait 96;slide a east;slide a east;", 5);
        is("judge(51): the last is WRONG", t.judge(51), 4);
        is("why", t.judged(0), 3);
        // 52 to 147 have 144 to 147 of hour 12, 148 to 243 have 240 to 243, the slide begins in 244.
        is("busy", t.judged(2), 8);
        is("first", t.judged(3), 93);
        is("quarters", t.judged(1), 194);
        // The ACT that is WRONG takes no QUARTER.
        Tape.town(t, 2, 0, 0);
        t.lay();
        planIs(t, "slide a east;", 1);
        is("judge(48)", t.judge(48), 0);
        is("busy", t.judged(2), 0);
        is("quarters", t.judged(1), 0);
    }

    private static void judgedOfThatLagoon() {
        promise = "19, 20, of that LAGOON";
        RaftTown t = town(TWO_RAFTS + "lies b 2 1 5;");
        is("judge(3)", t.judge(3), NONE);
        Tape.text(t, "row 0;");
        t.lagoon();
        is("b X", t.judgedAt(1, 0), 2);
        is("b Y", t.judgedAt(1, 1), 1);
        is("met", t.judged(4), 5);
        is("judgedAt(2, 0)", t.judgedAt(2, 0), NONE);
        is("judge(3)", t.judge(3), NONE);
        is("judgedAt(0, 0)", t.judgedAt(0, 0), NONE);
        is("met", t.judged(4), 0);
    }

    private static void tooManyActs() {
        promise = "21";
        RaftTown t = town("row 000;tide 1 0;raft a 1 1 1 0 0;");
        is("no PLAN", t.tooMany(0), NONE);
        is("tooMany(96)", t.tooMany(96), -2);
        is("tooMany(-1)", t.tooMany(-1), -2);
        planIs(t, "slide a east;slide a east;slide a east;slide a west;", 4);
        is("any of the first three; the first", t.tooMany(0), 0);
        planIs(t, "slide a east;slide a west;slide a west;slide a east;", 4);
        is("without 0 the next one is WRONG", t.tooMany(40), 1);
        planIs(t, "slide a north;slide a south;", 2);
        is("two are WRONG", t.tooMany(40), NONE);
        // A 'wait' can be the one, as what comes behind it begins earlier.
        planIs(t, "slide a east;wait 3;slide a west;", 3);
        is("tooMany(0)", t.tooMany(0), 1);
        planIs(t, "slide a east;slide a west;", 2);
        is("without 0 a is WRONG; without 1 none is", t.tooMany(40), 1);
        raftAt(t, 0, 0, 0, 0);
    }

    private static void insteadActs() {
        promise = "22";
        RaftTown t = town("row 000;row 000;tide 1 0;raft a 2 1 1 0 0;pole 0 0;");
        is("no PLAN", t.instead(0), NONE);
        is("instead(96)", t.instead(96), -2);
        is("instead(-1)", t.instead(-1), -2);
        planIs(t, "slide a west;", 1);
        is("east is the lesser", t.instead(40), 1);
        planIs(t, "slide a west;slide a east;slide a north;", 3);
        is("0 as south", t.instead(40), 2);
        planIs(t, "slide a north;slide a north;slide a north;", 3);
        is("not one will do", t.instead(40), NONE);
        planIs(t, "slide a east;slide a east;", 2);
        is("0 as south", t.instead(40), 2);
        planIs(t, "wait 2;turn a;turn a;", 3);
        // From 0 0 a turns to 0 0 high; the second turn would lie to the west, beyond.
        is("act 1 otherwise: east brings it off the POLE, south too; act 2: east", t.instead(40), 21);
        planIs(t, "slide a east;slide a west;slide a north;", 3);
        is("1 as south", t.instead(40), 12);
        planIs(t, "turn a;slide a south;", 2);
        is("0 as east", t.instead(40), 1);
        planIs(t, "slide a north;", 1);
        Tape.town(t, 0, 0, 1);
        t.lay();
        is("east of a high one", t.instead(40), 1);
        planIs(t, "wait 96;", 1);
        is("a 'wait' is not done otherwise", t.instead(40), NONE);
        // Hour 1 has no WATER: all that begins in 4 to 7 is WRONG.
        planIs(t, "slide a east;", 1);
        is("instead(4)", t.instead(4), NONE);
        is("instead(3)", t.instead(3), NONE);
    }

    private static void leastActs() {
        promise = "23, 27";
        RaftTown t = town("row 000;row 000;raft a 1 1 0 0 0;raft b 1 1 0 2 1;");
        Tape.town(t, 2, 0, 0, 0, 1, 0);
        is("least(0)", t.least(0), 4);
        foundIs(t, 1, 1, 13, 13);
        is("count(7)", t.count(7), 0);
        raftAt(t, 0, 0, 0, 0);
        Tape.town(t, 2, 1, 0, 0, 0, 0);
        // a east, east, then b has to be off 2 1; a south is less than b north then.
        is("least(0)", t.least(0), 6);
        foundIs(t, 1, 1, 13, 2, 10, 13);
        Tape.town(t, 0, 0, 1, 2, 1, 1);
        is("already there", t.least(23), 0);
        foundIs(t);
        Tape.town(t, 1, 0, 0, 2, 1, 0);
        is("least(5)", t.least(5), 1);
        foundIs(t, 1);
        int[][] not = {{0, 0, 0, 0, 0, 0}, {3, 0, 0, 0, 0, 0}, {0, 0, 0}, {}, {0, 0, 2, 1, 1, 0}};
        for (int[] town : not) {
            Tape.town(t, town);
            is("least(0) of " + java.util.Arrays.toString(town), t.least(0), -2);
            is("count(7)", t.count(7), 0);
            foundIs(t, 1);
        }
        Tape.town(t, 1, 0, 0, 2, 1, 0);
        is("least(24)", t.least(24), -2);
        Tape.town(t, 1, 0, 0, 2, 1, 0);
        is("least(-1)", t.least(-1), -2);
        foundIs(t, 1);
    }

    private static void leastWithWalls() {
        promise = "23, what is in the way";
        RaftTown t = town("row 000;row 090;tide 7 9;raft a 1 1 1 0 1;pole 2 0;pole 0 0;");
        Tape.town(t, 2, 1, 0);
        is("around", t.least(0), 4);
        foundIs(t, 0, 1, 1, 2);
        Tape.town(t, 1, 1, 0);
        is("no WATER at the end", t.least(0), NONE);
        foundIs(t, 0, 1, 1, 2);
        t = town("row 000;raft a 2 1 0 0 0;pole 1 0;");
        Tape.town(t, 1, 0, 0);
        is("one slide", t.least(0), 1);
        t = town("row 000;row 000;row 000;raft a 3 1 0 0 1;pole 1 1;");
        Tape.town(t, 1, 0, 1);
        is("a TURN", t.least(0), 1);
        foundIs(t, 4);
        Tape.town(t, 0, 0, 1);
        is("a TURN and a SLIDE", t.least(0), 2);
        foundIs(t, 4, 3);
        // Four RAFTS, 26 CELLS and more.
        t = town("row 0000;raft a 1 1 0 0 0;raft b 1 1 0 1 0;raft c 1 1 0 2 0;");
        Tape.town(t, 0, 0, 0, 1, 0, 0, 3, 0, 0);
        is("three RAFTS", t.least(0), 1);
        t = town("row 0000;raft a 1 1 0 0 0;raft b 1 1 0 1 0;raft c 1 1 0 2 0;raft d 1 1 0 3 0;");
        Tape.town(t, 0, 0, 0, 1, 0, 0, 2, 0, 0, 3, 0, 0);
        is("four RAFTS", t.least(0), -2);
        is("changed", t.changed(0, 1, 0), -2);
        is("best", t.best(0, 0), -2);
        is("all", t.all(), -2);
        is("alone", t.alone(0, 0, 0, 0, 0), 0);
        t = town("row 00000;".repeat(5) + "raft a 1 1 0 0 0;");
        Tape.town(t, 4, 4, 0);
        is("25 CELLS", t.least(0), 8);
        foundIs(t, 1, 1, 1, 1, 2, 2, 2, 2);
        t = town("row 0000000;".repeat(4) + "raft a 1 1 0 0 0;raft b 1 1 0 1 0;");
        Tape.town(t, 0, 0, 0, 1, 0, 0);
        is("28 CELLS", t.least(0), -2);
        is("changed", t.changed(0, 1, 0), -2);
        is("best", t.best(0, 0), -2);
        is("all", t.all(), -2);
        is("alone", t.alone(0, 0, 3, 0, 0), 3);
    }

    private static void changedPlaces() {
        promise = "24";
        RaftTown t = town("row 00;row 00;raft a 1 1 0 0 0;raft b 1 1 0 1 0;");
        is("changed", t.changed(0, 1, 0), 4);
        foundIs(t, 2, 1, 13, 0);
        is("changed", t.changed(1, 0, 0), 4);
        is("in a row of one", town("row 00;raft a 1 1 0 0 0;raft b 1 1 0 1 0;").changed(0, 1, 0), NONE);
        is("a, a", t.changed(0, 0, 0), -2);
        is("no such", t.changed(0, 2, 0), -2);
        is("no such", t.changed(-1, 0, 0), -2);
        is("no such hour", t.changed(0, 1, 24), -2);
        is("no such hour", t.changed(0, 1, -1), -2);
        foundIs(t, 2, 1, 13, 0);
        t = town("row 000;row 000;raft a 2 1 0 0 0;raft b 1 1 0 2 0;");
        is("beyond the LAGOON", t.changed(0, 1, 0), -2);
        t = town("row 0000;row 0000;raft a 2 1 0 0 0;raft b 1 1 0 1 1;raft c 1 1 0 2 1;");
        is("a on c", t.changed(0, 1, 0), -2);
        t = town("row 0000;row 0000;raft a 2 1 0 0 0;raft b 1 1 0 1 1;");
        is("a and b side by side", t.changed(0, 1, 0), 4);
        t = town("row 000;row 000;row 000;raft a 2 1 0 0 0;raft b 1 1 0 1 1;");
        Tape.town(t, 0, 0, 1, 2, 0, 0);
        t.lay();
        is("turned as they are", t.changed(0, 1, 0), 6);
        foundIs(t, 1, 2, 1, 13, 0, 13);
    }

    private static void aloneActs() {
        promise = "25";
        RaftTown t = town("row 00000000;".repeat(8) + "raft a 2 1 0 0 0;raft b 3 3 0 2 0;raft c 1 1 0 0 5;raft d 1 1 0 7 7;pole 0 0;pole 7 6;");
        is("over to the east of b", t.alone(0, 5, 0, 0, 0), 11);
        foundIs(t, 2, 2, 2, 1, 1, 1, 1, 1, 0, 0, 0);
        is("stay", t.alone(0, 0, 0, 0, 0), 0);
        foundIs(t);
        is("turn", t.alone(0, 0, 0, 1, 0), 1);
        foundIs(t, 4);
        is("turned elsewhere", t.alone(0, 1, 0, 1, 0), 2);
        foundIs(t, 4, 1);
        is("on b", t.alone(0, 2, 0, 0, 0), NONE);
        foundIs(t, 4, 1);
        is("beyond", t.alone(0, 7, 0, 0, 0), -2);
        is("beyond", t.alone(0, 0, 7, 1, 0), -2);
        is("no such CELL", t.alone(0, 8, 0, 0, 0), -2);
        is("no such CELL", t.alone(0, 0, -1, 0, 0), -2);
        is("no such RAFT", t.alone(4, 0, 0, 0, 0), -2);
        is("no such RAFT", t.alone(-1, 0, 0, 0, 0), -2);
        is("no such turned", t.alone(0, 0, 0, 2, 0), -2);
        is("no such turned", t.alone(0, 0, 0, -1, 0), -2);
        is("no such hour", t.alone(0, 0, 0, 0, 24), -2);
        foundIs(t, 4, 1);
        is("0 and 1 alike", t.alone(2, 1, 5, 1, 0), 1);
        foundIs(t, 21);
        is("RAFT 3", t.alone(3, 6, 6, 0, 0), 2);
        foundIs(t, 30, 33);
        t = town("row 000;tide 2 0;raft a 1 1 1 0 0;raft b 1 1 0 1 0;rope a b 0 1;");
        is("a rope holds b", t.alone(1, 2, 0, 0, 0), NONE);
        is("aground", t.alone(0, 0, 0, 0, 2), 0);
    }

    private static void bestTowns() {
        promise = "26";
        RaftTown t = town("row 00000;raft a 1 1 0 2 0;raft b 1 1 0 4 0;lies a 0 0 5;lies a 3 0 4;beside a b 1;");
        is("best(0, 0)", t.best(0, 0), 0);
        foundIs(t);
        is("best(1, 0)", t.best(1, 0), 5);
        foundIs(t, 1);
        is("best(2, 0)", t.best(2, 0), 5);
        foundIs(t, 1);
        is("best(3, 0)", t.best(3, 0), 5);
        foundIs(t, 1);
        is("best(4, 0)", t.best(4, 0), 5);
        is("best(5, 0): a west twice, b west thrice", t.best(5, 0), 6);
        foundIs(t, 3, 3, 13, 13, 13);
        is("best(60, 0)", t.best(60, 0), 6);
        raftAt(t, 0, 2, 0, 0);
        is("best(61, 0)", t.best(61, 0), -2);
        is("best(-1, 0)", t.best(-1, 0), -2);
        is("best(1, 24)", t.best(1, 24), -2);
        is("best(1, -1)", t.best(1, -1), -2);
        foundIs(t, 3, 3, 13, 13, 13);
        t = town("row 000;raft a 1 1 0 1 0;lies a 0 0 5;lies a 2 0 5;");
        is("of like ones east is the first", t.best(60, 0), 5);
        foundIs(t, 1);
        t = town("row 000;tide 3 0;raft a 1 1 1 1 0;lies a 0 0 5;lies a 1 0 2;");
        is("aground it stays", t.best(60, 3), 2);
        foundIs(t);
    }

    private static void allWants() {
        promise = "28, 29, 30";
        RaftTown t = town("row 000;row 090;raft a 2 1 9 0 0;raft b 1 1 0 2 0;lies a 1 1 5;lies b 1 1 4;beside a b 2;sun b north 1;");
        is("all()", t.all(), 5 + 2 + 1);
        // Not turned: a at 0 1; b at 0 0 has it to the south, and the sun to the north.
        int[][] due = {{0, 1, 0}, {0, 0, 0}};
        for (int r = 0; r < 2; r++) for (int what = 0; what < 3; what++) is("allAt(" + r + ", " + what + ")", t.allAt(r, what), due[r][what]);
        is("left()", t.left(), 2);
        is("allAt(2, 0)", t.allAt(2, 0), NONE);
        is("allAt(-1, 0)", t.allAt(-1, 0), NONE);
        is("allAt(0, 3)", t.allAt(0, 3), NONE);
        is("allAt(0, -1)", t.allAt(0, -1), NONE);
        raftAt(t, 0, 0, 0, 0);
        Tape.text(t, "row 0000;raft a 1 1 0 0 0;raft b 1 1 0 1 0;raft c 1 1 0 2 0;raft d 1 1 0 3 0;");
        t.lagoon();
        is("all() of four", t.all(), -2);
        is("it stays", t.left(), 2);
        is("of that LAGOON", t.allAt(1, 1), 0);
        is("of that LAGOON", t.allAt(2, 0), NONE);
        t = town("row 0000;raft a 1 1 0 0 0;raft b 1 1 0 1 0;rope a b 1 1;lies a 0 0 5;lies b 3 0 5;lies b 2 0 2;");
        is("the rope is too short for both", t.all(), 7);
        is("allAt(1, 0)", t.allAt(1, 0), 2);
        is("left()", t.left(), 2);
        t = town("row 00;row 00;row 00;raft a 1 2 0 0 0;lies a 1 2 1;lies a 0 2 1;");
        is("turned", t.all(), 2);
        is("X", t.allAt(0, 0), 0);
        is("Y", t.allAt(0, 1), 2);
        is("turned", t.allAt(0, 2), 1);
        is("left()", t.left(), 0);
        t = town("row 00;raft a 1 1 0 1 0;");
        is("no WANTS", t.all(), 0);
        is("the first TOWN", t.allAt(0, 0), 0);
        is("left()", t.left(), 0);
    }

    private static void couldLie() {
        promise = "31";
        RaftTown t = town("row 0120;row 0000;tide 0 1;tide 1 2;raft a 2 1 2 0 1;raft b 1 1 0 3 1;rope a b 1 1;");
        is("where it lies", t.could(0, 0, 1, 0), EVERY_HOUR & ~1);
        is("over 1 0 and 2 0", t.could(0, 1, 0, 0), EVERY_HOUR & ~3);
        is("turned", t.could(0, 1, 0, 1), EVERY_HOUR & ~3);
        is("turned at 0 0, two columns from b", t.could(0, 0, 0, 1), 0);
        is("on b", t.could(0, 2, 1, 0), 0);
        is("on b, turned", t.could(0, 3, 0, 1), 0);
        is("beyond", t.could(0, 3, 0, 0), NONE);
        is("beyond, turned", t.could(0, 0, 1, 1), NONE);
        is("no such CELL", t.could(0, 4, 0, 0), NONE);
        is("no such CELL", t.could(0, 0, 2, 0), NONE);
        is("no such RAFT", t.could(2, 0, 0, 0), NONE);
        is("no such RAFT", t.could(-1, 0, 0, 0), NONE);
        is("no such turned", t.could(0, 0, 0, 2), NONE);
        is("no such turned", t.could(0, 0, 0, -1), NONE);
        is("b turned or not", t.could(1, 3, 0, 1), EVERY_HOUR);
        is("b at 2 0", t.could(1, 2, 0, 0), EVERY_HOUR);
        raftAt(t, 0, 0, 1, 0);
    }

    private static final String ROPED = "row 00000000;row 00000000;row 00000000;raft a 1 1 0 0 0;raft b 2 1 0 1 0;raft c 3 1 0 3 0;raft d 2 2 0 6 0;raft e 1 1 0 0 2;";

    private static void storms() {
        promise = "32";
        RaftTown t = town(ROPED + "rope a b 0 5;rope c b 0 7;moor a 12;moor d 4;moor e 99;");
        // a, b, c: 6 CELLS, 12; d: 4 CELLS, 4; e: 1 CELL, 99.
        is("storm(0)", t.storm(0), 0);
        is("storm(1)", t.storm(1), 0);
        is("storm(2)", t.storm(2), 8);
        is("storm(3)", t.storm(3), 15);
        is("storm(99)", t.storm(99), 15);
        is("storm(100)", t.storm(100), NONE);
        is("storm(-1)", t.storm(-1), NONE);
    }

    private static void cuts() {
        promise = "33";
        RaftTown t = town(ROPED + "rope a b 0 5;rope c b 0 7;rope a c 2 2;moor a 12;moor d 4;moor e 99;");
        is("not DRIVEN: nothing", t.cut(0, 2, 0), 0);
        is("not DRIVEN: nothing", t.cut(0, 2, 1), 0);
        // Force 3: a, b alone would be 9 by 12; off with c by ropes 1, 2: 9. a alone by 0, 2: 7.
        is("a", t.cut(0, 3, 0), 7);
        is("a", t.cut(0, 3, 1), 5);
        is("b with a", t.cut(1, 3, 0), 9);
        is("b with a", t.cut(1, 3, 1), 6);
        is("c with a", t.cut(2, 3, 0), 12);
        is("c with a", t.cut(2, 3, 1), 3);
        is("c can't be", t.cut(2, 4, 0), NONE);
        is("c can't be", t.cut(2, 4, 1), NONE);
        is("a alone", t.cut(0, 12, 1), 5);
        is("a can't be", t.cut(0, 13, 1), NONE);
        is("d", t.cut(3, 1, 0), 0);
        is("d can't be", t.cut(3, 2, 0), NONE);
        is("no such RAFT", t.cut(5, 1, 0), NONE);
        is("no such RAFT", t.cut(-1, 1, 0), NONE);
        is("no such force", t.cut(0, 100, 0), NONE);
        is("force 99", t.cut(4, 99, 0), 0);
        is("force 99", t.cut(4, 99, 1), 0);
        is("force 0", t.cut(2, 0, 0), 0);
        is("no such force", t.cut(0, -1, 0), NONE);
        is("no such what", t.cut(0, 1, 2), NONE);
        is("no such what", t.cut(0, 1, -1), NONE);
        // Chain a - b - c with the same HOLDS: off c or off b and c; then two ropes of 2 or one of 4.
        t = town(ROPED + "rope b c 0 4;rope a b 0 4;moor a 3;");
        is("like HOLDS: the least set of those that do", t.cut(0, 1, 1), 1);
        t = town(ROPED + "rope b c 0 2;rope c a 2 2;rope a b 0 4;moor a 1;moor b 20;moor c 2;");
        is("not DRIVEN", t.cut(0, 3, 1), 0);
        is("a goes with b: c is off by 0, 1", t.cut(0, 4, 1), 3);
        is("HOLDS", t.cut(0, 4, 0), 4);
        t = town(ROPED + "rope a b 0 3;rope a c 2 3;moor a 9;moor b 1;moor c 1;");
        // Force 2: all are 12 by 11; off b: 8 by 10; off c: 6 by 10. The fewest and then the least set.
        is("the least set as bits", t.cut(0, 2, 1), 1);
        t = town(ROPED + "rope a c 2 4;rope d a 5 2;rope d b 3 2;moor a 9;moor b 99;");
        is("all are held", t.cut(0, 9, 0), 0);
        t = town(ROPED + "rope a b 0 1;rope b c 0 1;rope a c 2 2;rope c d 0 2;moor a 9;moor b 1;moor c 1;");
        // Force 1: 10 by 11, none. Force 2: 20 by 11; off d alone (2): 12 by 11; a alone (0, 2: 3), a and b (1, 2: 3), a and c (0, 1, 3: 4).
        is("like HOLDS, like many: the least set", t.cut(0, 2, 1), 5);
        is("HOLDS", t.cut(0, 2, 0), 3);
        t = town(ROPED + "rope a b 0 2;rope b c 0 1;rope a e 1 1;moor a 3;");
        // Force 1: all are 7 by 3; a, e: 2 by off rope 0 (2); a, b: 3 by off 1 and 2 (2): the fewest.
        is("like HOLDS: the fewest", t.cut(0, 1, 1), 1);
        t = town(ROPED + "rope b c 0 1;rope a e 1 1;rope a b 0 2;moor a 3;");
        is("like HOLDS: the fewest, not the least set", t.cut(0, 1, 1), 4);
    }

    private static void images() {
        promise = "34, 35";
        RaftTown t = town(TWO_RAFTS + "rope a b 3 1;moor a 5;pole 1 1;tide 2 7;beside a b 3;square 0 0 1 1;");
        is("restore(0)", t.restore(0), false);
        is("image(-1)", t.image(-1), false);
        is("image(2)", t.image(2), false);
        is("restore(-1)", t.restore(-1), false);
        is("restore(2)", t.restore(2), false);
        t.move(0, 1, 0);
        planIs(t, "slide a east;wait 2;", 2);
        t.judge(48);
        is("image(0)", t.image(0), true);
        t.move(0, 2, 0);
        planIs(t, "wait 5;", 1);
        is("image(1)", t.image(1), true);
        Tape.text(t, "row 9;tide 2 1;raft z 1 1 0 0 0;lies z 0 0 1;");
        t.lagoon();
        Tape.text(t, "abc");
        t.all();
        is("restore(0)", t.restore(0), true);
        is("the tape stays", t.count(7), 3);
        is("what all() told stays", t.allAt(0, 0), 0);
        is("what judge() told stays", t.judged(1), 3);
        int[] due = {3, 2, 2, 1, 1, 1, 2, 3};
        for (int what = 0; what < 8; what++) is("count(" + what + ")", t.count(what), due[what]);
        raftAt(t, 0, 1, 0, 0);
        raftAt(t, 1, 2, 1, 0);
        is("water", t.water(0, 0, 2), 7);
        is("act(1, 1)", t.act(1, 1), 2);
        is("storm", t.storm(3), 3);
        is("wants", t.wants(0), 0);
        t.end(0);
        t.move(0, 3, 0);
        planIs(t, "turn a;turn b;turn a;", 3);
        is("restore(0) once more", t.restore(0), true);
        raftAt(t, 0, 1, 0, 0);
        is("count(6)", t.count(6), 2);
        is("restore(1)", t.restore(1), true);
        raftAt(t, 0, 1, 1, 0);
        is("wants", t.wants(0), 3);
        is("count(6)", t.count(6), 1);
        is("act(0, 1)", t.act(0, 1), 5);
        is("names too", (long) planOf(t, "turn b;"), 1);
        is("image(1) anew", t.image(1), true);
        t.move(0, 3, 0);
        t.restore(1);
        is("act(0, 0)", t.act(0, 0), 4);
        raftAt(t, 0, 1, 1, 0);
    }

    private static int planOf(RaftTown t, String text) {
        Tape.text(t, text);
        return t.plan();
    }

    private static void counts() {
        promise = "36";
        RaftTown t = town("row 0000;row 0000;row 0000;raft a 1 1 0 0 0;raft b 1 1 0 1 0;pole 0 0;pole 1 0;pole 2 0;rope a b 1 1;beside a b 1;sun a west 1;sun b west 1;sun a east 2;");
        planIs(t, "turn a;turn b;wait 3;turn a;turn b;wait 4;", 6);
        t.feed(0, 0, 0, 0, 0);
        int[] due = {4, 3, 2, 3, 1, 4, 6, 20};
        for (int what = 0; what < 8; what++) is("count(" + what + ")", t.count(what), due[what]);
        is("count(8)", t.count(8), NONE);
        is("count(-1)", t.count(-1), NONE);
    }
}

/** Sentences on texts: TOKENS, the LINES of a LAGOON, its FAULTS ("Terms", ==== 1) and promises 1 to 5. */
final class TextEdges {
    private static final String TERMS = "Terms";
    private static final String ROWS = "row 000;row 000;";
    /** Of a and b there is one column between them, and no row. */
    private static final String RAFTS = ROWS + "raft a 1 1 0 0 0;raft b 1 1 0 2 1;";
    private static final String WIDEST = "row 00000000;".repeat(8);
    private static final String[] WORDS = {"row", "tide", "raft", "pole", "rope", "moor", "beside", "apart", "sun", "lies",
        "square", "north", "east", "south", "west", "slide", "turn", "wait"};

    private final Edges e;

    TextEdges(Edges edges) { e = edges; }

    void run() {
        e.section(TERMS);
        tokens();
        rows();
        tides();
        rafts();
        poles();
        ropes();
        moors();
        squares();
        wants();
        names();
        most();
        firstFault();
        fault1();
        end();
        fault2();
        fault3();
        fault4();
        newLagoon();
        throwing();
        promise1();
        promise2();
        promise3();
        promise4();
        promise5();
    }

    private static String blanks(int many) { return " ".repeat(many); }

    private void tokens() {
        e.sentence("TOKENS of all texts, with blanks (32, 10) between them or not");
        e.sound("row 0;tide 1 2;row 0;", 3);
        e.sound(" \n row \n\n 0 ; \n tide\n1  2\n;\n", 2);
        e.sound("\n", 0);
        e.sound("   ", 0);
        e.faulty("row@\t0;", 1);
        e.faulty("row 0;@\r\n", 1);
        e.faulty("row 0;@\0", 1);
        e.faulty("row 0;@\u000b", 1);
        e.faulty("row 0;@\u001f", 1);
        e.faulty("row 0;@!", 1);
        e.plan(e.town(RAFTS), "\n slide\na\neast ;wait 1;turn b\n;\n", 3);
        e.planFaulty(e.town(RAFTS), "wait@\t1;", 1);

        e.sentence("WORDS: small letters, 1 to 6");
        e.sound(ROWS + "raft z 1 1 0 0 0;", 3);
        e.sound(ROWS + "raft abcxyz 1 1 0 0 0;", 3);
        e.faulty(ROWS + "raft @abcwxyz 1 1 0 0 0;", 1);
        e.faulty(ROWS + "raft @A 1 1 0 0 0;", 1);
        e.faulty(ROWS + "raft a@` 1 1 0 0 0;", 1);
        e.faulty(ROWS + "raft z@{ 1 1 0 0 0;", 1);
        // All six letters count, and how many there are.
        e.sound(ROWS + "raft abcdef 1 1 0 0 0;raft abcdee 1 1 0 1 0;raft bbcdef 1 1 0 2 0;raft a 1 1 0 0 1;raft aa 1 1 0 1 1;", 7);

        e.sentence("NUMBERS: 1 to 8 digits");
        e.is("columns", e.sound("row 9;", 1).count(0), 1);
        e.is("columns", e.sound("row 00000000;", 1).count(0), 8);
        e.faulty("row @000000000;", 1);
        e.is("water", e.sound("row 0;tide 00000023 00000009;", 2).water(0, 0, 23), 9);
        e.faulty("tide @000000023 9;", 1);
        e.faulty("tide 1 @000000009;", 1);
        e.faulty("tide @12345678 9;", 2);
        e.faulty("row 0@/;", 1);
        e.faulty("row 9@:;", 1);

        e.sentence("; ; .");
        e.sound("row 0;", 1);
        e.faulty("row 0@:", 1);
        e.faulty("row 0@,", 1);
        e.faulty("row 0@.", 1);

        e.sentence("(A WORD, NUMBER goes on as long as small letters and digits do");
        e.faulty("@row0;", 1);
        e.faulty("tide @1a 2;", 1);
        e.faulty("tide 1 @2tide 2 3;", 1);
        e.faulty(ROWS + "raft @a1 1 1 0 0 0;", 1);
        e.faulty("@abcdefghijklmnopqrstuvwxyz0123456789 row 0;", 1);
        e.planFaulty(e.town(RAFTS), "@wait1;", 1);

        e.sentence("what is not as told is no TOKEN.)");
        e.faulty("@ROW 0;", 1);
        e.faulty("row @-1;", 1);
        e.faulty("row @+1;", 1);
        e.faulty("tide 1 @\u00e9;", 1);
        e.faulty("row 0;@\u0080", 1);
        e.faulty("row 0;@\u00ff", 1);
        // In a RAFT's place, too, it is no NAME that is not told.
        e.faulty(RAFTS + "moor @! 1;", 1);
        e.faulty(RAFTS + "rope a @B 1 1;", 1);
        e.planFaulty(e.town(RAFTS), "turn @A;", 1);
    }

    private void rows() {
        e.sentence("A LAGOON is a text of at most 900 bytes: { LINE ; }.");
        e.sound("", 0);
        e.sound("row 0;" + blanks(894), 1);
        e.faulty("row 0;" + blanks(894) + "@ ", 1);
        e.sound("row 0;" + blanks(885) + "tide 1 2;", 2);
        e.faulty("row 0;" + blanks(886) + "tide 1 2@;", 1);
        e.faulty("@;", 1);
        e.faulty("row 0;@;", 1);
        e.faulty("row 0 @row 0;", 1);

        e.sentence("LINE: 'row' DIGITS (a NUMBER as written: of each CELL the GROUND, 0 to 9, from the west on");
        RaftTown t = e.town("tide 0 9;row 01234567;row 98000000;");
        e.is("columns", t.count(0), 8);
        for (int x = 0; x < 8; x++) e.is("water(" + x + ", 0, 0)", t.water(x, 0, 0), 9 - x);
        e.is("water(0, 1, 0)", t.water(0, 1, 0), 0);
        e.is("water(1, 1, 0)", t.water(1, 1, 0), 1);
        e.is("water(2, 1, 0)", t.water(2, 1, 0), 9);
        e.is("columns of 001", e.town("row 001;").count(0), 3);

        e.sentence("as many in each row as in the first");
        e.faulty("row 000;row @00;", 2);
        e.faulty("row 000;row @0000;", 2);
        e.faulty("row 00;row 00;row @0;", 2);
        e.faulty("row 0;row @00000000;", 2);
        e.sound("row 00;row 11;", 2);

        e.sentence("the first row is the most northern one, Y 0)");
        t = e.town("row 1;row 2;row 3;raft a 1 1 0 0 1;");
        for (int y = 0; y < 3; y++) e.is("water(0, " + y + ", 0)", t.water(0, y, 0), 4 - y);
        e.is("move north", t.move(0, 0, 0), 0);
        e.is("Y", t.raft(0, 1), 0);
    }

    private void tides() {
        e.sentence("'tide' H LEVEL (0 to 23, each once; 0 to 9; 5 without)");
        RaftTown t = e.sound("row 0;tide 0 0;tide 23 9;", 3);
        e.is("water in 0", t.water(0, 0, 0), 0);
        e.is("water in 23", t.water(0, 0, 23), 9);
        e.is("water in 1", t.water(0, 0, 1), 5);
        e.is("water in 22", t.water(0, 0, 22), 5);
        e.faulty("tide @24 0;", 2);
        e.faulty("tide 0 @10;", 2);
        e.faulty("tide 5 1;tide 6 1;tide @5 1;", 3);
        e.faulty("tide 0 1;tide @0 1;", 3);
        e.faulty("tide 23 1;tide @23 1;", 3);
        StringBuilder all = new StringBuilder();
        for (int h = 0; h < 24; h++) all.append("tide ").append(h).append(" 1;");
        e.sound(all.toString(), 24);
        e.tellLagoon(t, "row 0;tide 1 1;");
        e.is("in a new LAGOON none of the former is told", t.water(0, 0, 0), 5);
        e.tellLagoon(t, "tide 0 1;tide 23 2;row 0;");
        e.is("nor has one been told ahead", t.water(0, 0, 23), 2);
    }

    private void rafts() {
        e.sentence("'raft' NAME WIDE HIGH DRAFT X Y (1 to 3 both; 0 to 9; the CELL of its north-western corner");
        RaftTown t = e.sound(WIDEST + "raft a 3 2 9 5 6;raft b 1 3 0 0 5;", 10);
        for (int y = 0; y < 8; y++) for (int x = 0; x < 8; x++) {
            e.is("at(" + x + ", " + y + ")", t.at(x, y), x >= 5 && y >= 6 ? 0 : x == 0 && y >= 5 ? 1 : Edges.NONE);
        }
        e.is("DRAFT", t.raft(0, 4), 9);
        e.is("DRAFT", t.raft(1, 4), 0);
        e.faulty(WIDEST + "raft a @0 1 0 0 0;", 2);
        e.faulty(WIDEST + "raft a @4 1 0 0 0;", 2);
        e.faulty(WIDEST + "raft a 1 @0 0 0 0;", 2);
        e.faulty(WIDEST + "raft a 1 @4 0 0 0;", 2);
        e.faulty(WIDEST + "raft a 1 1 @10 0 0;", 2);

        e.sentence("all its CELLS in the LAGOON as told so far, no other raft on them)");
        e.faulty("raft a 1 1 0 @0 0;row 0;", 2);
        e.faulty("row 00;raft a 1 2 0 0 @0;row 00;", 2);
        e.sound("row 00;row 00;raft a 1 2 0 0 0;", 3);
        e.sound("row 00;raft a 2 1 0 0 0;row 00;raft b 2 1 0 0 1;", 4);
        e.faulty(ROWS + "raft a 2 1 0 2 @0;", 2);
        e.sound(ROWS + "raft a 2 1 0 1 0;", 3);
        e.faulty(ROWS + "raft a 2 2 0 0 0;raft b 1 1 0 1 @1;", 3);
        e.sound(ROWS + "raft a 2 2 0 0 0;raft b 1 2 0 2 0;", 4);
    }

    private void poles() {
        e.sentence("'pole' X Y (a CELL told, each once)");
        e.is("POLES", e.sound(ROWS + "raft a 1 1 0 0 0;pole 0 0;pole 2 1;pole 1 0;pole 0 1;", 7).count(3), 4);
        e.faulty("pole @0 0;row 0;", 2);
        e.faulty(ROWS + "pole @3 0;", 2);
        e.faulty(ROWS + "pole 0 @2;", 2);
        e.faulty("row 0;pole 0 @1;row 0;", 2);
        e.faulty(ROWS + "pole 1 0;pole 0 1;pole 1 @0;", 3);
        e.faulty(ROWS + "pole 2 1;pole 2 @1;", 3);
    }

    private void ropes() {
        e.sentence("'rope' RAFT RAFT GAP HOLDS (unlike; two of them once; 0 to 9; 1 to 99; GAP no less than as they lie)");
        e.sound(RAFTS + "rope a b 1 1;", 5);
        e.sound(RAFTS + "rope b a 9 99;", 5);
        e.faulty(RAFTS + "rope a @a 1 1;", 3);
        e.faulty(RAFTS + "rope a b 1 1;rope a @b 1 1;", 3);
        e.faulty(RAFTS + "rope a b 1 1;rope b @a 1 1;", 3);
        e.faulty(RAFTS + "rope a b @10 1;", 2);
        e.faulty(RAFTS + "rope a b 1 @0;", 2);
        e.faulty(RAFTS + "rope a b 1 @100;", 2);
        e.faulty(RAFTS + "rope a b @0 1;", 2);
        e.sound(ROWS + "raft a 1 1 0 0 0;raft b 1 1 0 1 1;rope a b 0 1;", 5);
        // Six columns are the most that can lie between two.
        e.faulty(WIDEST + "raft a 1 1 0 0 0;raft b 1 1 0 7 7;rope a b @5 1;", 2);
        e.sound(WIDEST + "raft a 1 1 0 0 0;raft b 1 1 0 7 7;rope a b 6 1;", 11);
        e.faulty(WIDEST + "raft a 1 1 0 0 0;raft b 1 1 0 0 3;rope a b @1 1;", 2);
        e.sound(ROWS + "raft a 1 1 0 0 0;raft b 1 1 0 1 0;raft c 1 1 0 2 0;rope a b 0 1;rope b c 0 1;rope c a 1 1;", 8);
    }

    private void moors() {
        e.sentence("'moor' RAFT HOLDS (each once; 1 to 99)");
        e.sound(RAFTS + "moor a 1;moor b 99;", 6);
        e.faulty(RAFTS + "moor a @0;", 2);
        e.faulty(RAFTS + "moor a @100;", 2);
        e.faulty(RAFTS + "moor a 1;moor b 1;moor @a 2;", 3);
        e.faulty(RAFTS + "moor b 1;moor @b 1;", 3);
        RaftTown t = e.town(RAFTS + "moor a 1;");
        Tape.text(t, RAFTS + "moor a 1;");
        e.is("a moor of the former LAGOON is none of this one", t.lagoon(), 5);
    }

    private void squares() {
        e.sentence("WANT | 'square' X Y WIDE HIGH (once; a CELL told; 1 to 8 both, in the LAGOON as told so far).");
        e.sound(WIDEST + "square 0 0 8 8;", 9);
        e.sound(WIDEST + "square 7 7 1 1;", 9);
        e.faulty(WIDEST + "square 0 0 @0 1;", 2);
        e.faulty(WIDEST + "square 0 0 @9 1;", 2);
        e.faulty(WIDEST + "square 0 0 1 @0;", 2);
        e.faulty(WIDEST + "square 0 0 1 @9;", 2);
        e.faulty(WIDEST + "square @8 0 1 1;", 2);
        e.faulty(WIDEST + "square 0 @8 1 1;", 2);
        e.faulty(WIDEST + "square 1 0 8 @1;", 2);
        e.faulty(WIDEST + "square 0 1 1 @8;", 2);
        e.faulty("square @0 0 1 1;row 0;", 2);
        e.faulty("row 0;square 0 0 1 @2;row 0;", 2);
        e.faulty(WIDEST + "square 7 7 1 1;@square 0 0 1 1;", 3);
        RaftTown t = e.town("row 0;square 0 0 1 1;");
        Tape.text(t, "row 0;square 0 0 1 1;");
        e.is("the square of the former LAGOON is none of this one", t.lagoon(), 2);
    }

    private void wants() {
        e.sentence("WANT: 'beside' RAFT RAFT W | 'apart' RAFT RAFT W (unlike)");
        e.sound(RAFTS + "beside a b 1;beside b a 99;apart a b 1;apart b a 99;", 8);
        e.sound(RAFTS + "beside a b 1;beside a b 1;", 6);
        e.faulty(RAFTS + "beside a @a 1;", 3);
        e.faulty(RAFTS + "apart b @b 1;", 3);

        e.sentence("'sun' RAFT SIDE W");
        e.sound(RAFTS + "sun b west 1;", 5);
        e.faulty(RAFTS + "sun b @1;", 1);
        e.faulty(RAFTS + "sun b west@;", 1);

        e.sentence("'lies' RAFT X Y W (a CELL told); W 1 to 99.");
        e.sound(RAFTS + "lies a 0 0 1;lies a 2 1 99;lies a 2 1 99;", 7);
        e.faulty(RAFTS + "lies a @3 0 1;", 2);
        e.faulty(RAFTS + "lies a 0 @2 1;row 000;", 2);
        String[] heads = {"beside a b ", "apart a b ", "sun a east ", "lies a 1 1 "};
        for (String head : heads) {
            e.faulty(RAFTS + head + "@0;", 2);
            e.sound(RAFTS + head + "1;", 5);
            e.sound(RAFTS + head + "99;", 5);
            e.faulty(RAFTS + head + "@100;", 2);
        }

        e.sentence("SIDE: 'north' | 'east' | 'south' | 'west'.");
        e.sound(RAFTS + "sun a north 1;sun a east 1;sun a south 1;sun a west 1;", 8);
        String[] others = {"up", "nort", "norths", "slide", "square", "turn", "lies", "a"};
        for (String other : others) {
            e.faulty(RAFTS + "sun a @" + other + " 1;", 1);
            e.planFaulty(e.town(RAFTS), "slide a @" + other + ";", 1);
        }
    }

    private void names() {
        e.sentence("NAME: a WORD, none of those told here or in a PLAN; told once.");
        for (String word : WORDS) {
            e.faulty(ROWS + "raft @" + word + " 1 1 0 0 0;", 1);
            if (word.length() < 6) e.sound(ROWS + "raft " + word + "s 1 1 0 0 0;", 3);
            e.sound(ROWS + "raft " + word.substring(1) + " 1 1 0 0 0;", 3);
        }
        String[] free = {"lagoon", "line", "name", "plan", "act", "side", "want", "town", "x", "y", "w", "h", "n"};
        for (String name : free) e.sound(ROWS + "raft " + name + " 1 1 0 0 0;", 3);
        e.faulty(ROWS + "raft @1 1 1 0 0 0;", 1);
        e.faulty(ROWS + "raft a 1 1 0 0 0;raft @a 1 1 0 1 0;", 3);
        RaftTown t = e.town(RAFTS);
        Tape.text(t, RAFTS);
        e.is("NAMES of the former LAGOON are none of this one", t.lagoon(), 4);
        Tape.text(t, ROWS + "moor a 1;");
        e.is("nor are they told", t.lagoon(), -22);
    }

    private static String eightRafts() {
        StringBuilder text = new StringBuilder("row 00000000;row 00000000;");
        for (int i = 0; i < 8; i++) text.append("raft ").append((char) ('a' + i)).append(" 1 1 0 ").append(i).append(" 0;");
        return text.toString();
    }

    private static String sixPoles() {
        StringBuilder text = new StringBuilder();
        for (int i = 0; i < 6; i++) text.append("pole ").append(i).append(" 1;");
        return text.toString();
    }

    /** Seven ropes among b to g, and the eighth from a to b. */
    private static final String EIGHT_ROPES = "rope b c 0 1;rope c d 0 1;rope d e 0 1;rope e f 0 1;rope f g 0 1;"
            + "rope b d 1 1;rope b e 2 1;rope a b 0 7;";

    private void most() {
        e.sentence("8 rows, 8 RAFTS, 6 POLES, 8 ropes, 10 WANTS at most, numbered from 0 each.");
        e.is("rows", e.sound("row 0;".repeat(8), 8).count(1), 8);
        e.faulty("row 0;".repeat(8) + "@row 0;", 4);
        RaftTown t = e.sound(eightRafts(), 10);
        for (int r = 0; r < 8; r++) e.is("at(" + r + ", 0)", t.at(r, 0), r);
        e.is("RAFTS", t.count(2), 8);
        e.faulty(eightRafts() + "@raft i 1 1 0 0 1;", 4);
        e.is("POLES", e.sound(eightRafts() + sixPoles(), 16).count(3), 6);
        e.faulty(eightRafts() + sixPoles() + "@pole 6 1;", 4);
        t = e.sound(eightRafts() + EIGHT_ROPES + "moor a 1;", 19);
        e.is("ropes", t.count(4), 8);
        e.is("rope 7 alone holds a back", t.cut(0, 1, 1), 1 << 7);
        e.is("its HOLDS", t.cut(0, 1, 0), 7);
        e.faulty(eightRafts() + EIGHT_ROPES + "@rope g h 0 1;", 4);
        t = e.sound(eightRafts() + "sun a south 3;".repeat(10), 20);
        e.is("WANTS", t.count(5), 10);
        e.is("wants(1)", t.wants(1), 1023);
        e.is("wants(0)", t.wants(0), 30);
        e.faulty(eightRafts() + "sun a south 3;".repeat(10) + "@sun a south 3;", 4);
        callsOfEight();
    }

    /** Each call that goes through all RAFTS, or takes one, with the most of all. */
    private void callsOfEight() {
        RaftTown t = e.town(eightRafts() + sixPoles() + EIGHT_ROPES + "sun h south 1;".repeat(10));
        e.is("at(7, 1)", t.at(7, 1), Edges.NONE);
        e.is("aground(0)", t.aground(0), 0);
        e.is("breaks(0)", t.breaks(0), 0);
        e.is("floats(7)", t.floats(7), Edges.EVERY_HOUR);
        e.is("gap(0, 7)", t.gap(0, 7), 6);
        e.is("storm(1)", t.storm(1), 255);
        e.is("cut(7, 1, 0)", t.cut(7, 1, 0), Edges.NONE);
        e.is("could(7, 7, 1, 0)", t.could(7, 7, 1, 0), Edges.EVERY_HOUR);
        e.is("move(0, 2, 0)", t.move(0, 2, 0), 0);
        e.is("move(7, 2, 0)", t.move(7, 2, 0), 0);
        e.lay(t, 0, 0, 0, 1, 0, 0, 2, 0, 0, 3, 0, 0, 4, 0, 0, 5, 0, 0, 6, 0, 0, 7, 1, 0);
        e.is("at(7, 1)", t.at(7, 1), 7);
        e.plan(t, "slide h north;", 1);
        e.is("act(0, 1)", t.act(0, 1), 7);
        e.is("judge(0)", t.judge(0), Edges.NONE);
        e.is("judgedAt(7, 1)", t.judgedAt(7, 1), 0);
        e.is("alone", t.alone(7, 7, 0, 0, 0), 1);
        e.found(t, 70);
        e.is("image(0)", t.image(0), true);
        t.move(7, 0, 0);
        e.is("restore(0)", t.restore(0), true);
        e.lies(t, 7, 7, 1, 0);
        e.is("count(3), (4), (5)", 100 * t.count(3) + 10 * t.count(4) + t.count(5), 690);
    }

    private void firstFault() {
        e.sentence("FAULTS, the first along the text, of one TOKEN the least");
        e.faulty("tide @24 10;tide 24 1;", 2);
        e.faulty("tide 1 1;tide @1 x;", 3);
        e.faulty("row 0;".repeat(8) + "@row x;", 4);
        e.faulty("row 0;".repeat(8) + "tide @24 1;row 0;", 2);
        e.faulty(ROWS + "raft a 1 1 0 0 0;raft @a 9 9 99 9 9;", 3);
        // b lies on a, and beyond the LAGOON.
        e.faulty(ROWS + "raft a 1 1 0 2 0;raft b 2 1 0 2 @0;", 2);
        e.faulty(RAFTS + "rope @c d 99 0", 3);
    }

    private void fault1() {
        e.sentence("1 no TOKEN, or one that can't come (at it");
        String[] can_not = {"@x;", "@5;", "@;", "@rows 0;", "@slide a north;", "@turn a;", "@wait 1;", "@north;", "row @x;", "row @;",
            "row @row 0;", "row 0 @0;", "row 0 @row 0;", "tide @a 1;", "tide 1@;", "tide 1 @a;", "tide 1 1 @1;"};
        for (String text : can_not) e.faulty(text, 1);
        String[] in_rafts = {"raft @5 1 1 0 1 0;", "raft @;", "raft c @x 1 0 1 0;", "raft c 1 @;", "raft c 1 1 @c 1 0;", "raft c 1 1 0 @;",
            "raft c 1 1 0 1@;", "raft c 1 1 0 1 0 @0;", "pole @a 0;", "pole 0 @;", "pole 0 0 @0;", "rope @1 b 1 1;", "rope @row b 1 1;",
            "rope a @1 1 1;", "rope a @east 1 1;", "rope a b @c 1;", "rope a b 1@;", "rope a b 1 1 @1;", "moor @1 1;", "moor @wait 1;",
            "moor a @;", "moor a 1 @b;", "beside @1 b 1;", "beside a @;", "beside a b @c;", "beside a b 1 @1;", "apart @sun b 1;",
            "apart a @5;", "apart a b@;", "sun @1 east 1;", "sun @north a 1;", "sun a @1;", "sun a east @east;", "sun a east 1 @1;",
            "lies @1 0 0 1;", "lies a @a 0 1;", "lies a 0 @;", "lies a 0 0@;", "lies a 0 0 1 @1;", "square @a 0 1 1;", "square 0 @;",
            "square 0 0 @x 1;", "square 0 0 1@;", "square 0 0 1 1 @1;"};
        for (String text : in_rafts) e.faulty(RAFTS + text, 1);
    }

    private void end() {
        e.sentence("the end: how many bytes there are");
        String[] ends = {"row@", "row @", "row 0@", "row 0 \n @", "row 0;tide@", "row 0;tide 1@", "row 0;tide 1 1@", "row 0; pole @", RAFTS + "raft@",
            RAFTS + "rope a b 1@", RAFTS + "moor@", RAFTS + "beside a@", RAFTS + "apart@", RAFTS + "sun a@", RAFTS + "lies a 0@", RAFTS + "square 0 0@"};
        for (String text : ends) e.faulty(text, 1);
        e.faulty("row 0;" + blanks(891) + "row@", 1);

        e.sentence("900, if there are more and no FAULT is ahead");
        e.faulty("row 0;" + blanks(894) + "@ ", 1);
        e.faulty("row 0;" + blanks(894) + "@" + blanks(40), 1);
        e.faulty("row 0;" + blanks(894) + "@tide 24 1;", 1);
        e.faulty("row 0;" + blanks(888) + "tide 1@ 24;", 1);
        e.faulty("row 0;" + blanks(893) + "@Zx", 1);
        e.faulty("row 0;tide 1 @10;" + blanks(900), 2);
        e.faulty("row 0;tide 1 1;tide @1 1;" + blanks(900), 3);

        e.sentence("TOKENS that begin ahead of it are read whole)");
        e.faulty("row 0;" + blanks(892) + "ti@de 1 1;", 1);
        e.faulty("row 0;" + blanks(892) + "@tides 1 1;", 1);
        e.faulty("row 0;" + blanks(893) + "t@ide 1 1;", 1);
        e.faulty("row 0;" + blanks(886) + "tide 1 @12;", 2);
        e.faulty("row 0;" + blanks(886) + "tide 1 0@2;", 1);
        e.faulty("row 0;" + blanks(885) + "tide 1 02@;", 1);
        e.faulty("row 00000000;" + blanks(882) + "row 0@0000000;", 1);
        e.faulty("row 00000000;" + blanks(882) + "row @000000000;", 1);
        e.faulty("row 0;" + blanks(893) + "@x1 ", 1);
        // As far as the tape goes, which has 940 at most.
        e.faulty("row 0;" + blanks(893) + "@" + "x".repeat(41), 1);
        e.faulty("row 0;" + blanks(893) + "@" + "0".repeat(41), 1);
    }

    private void fault2() {
        e.sentence("2 a NUMBER that is not as told (at it");
        String[] nots = {"row @00;", "row @0000;", "tide @24 1;", "tide 1 @10;", "raft c @0 1 0 1 0;", "raft c @4 1 0 1 0;", "raft c 1 @0 0 1 0;",
            "raft c 1 @4 0 1 0;", "raft c 1 1 @10 1 0;", "rope a b @10 1;", "rope a b 1 @0;", "rope a b 1 @100;", "moor a @0;", "moor a @100;",
            "beside a b @0;", "apart a b @100;", "sun a east @0;", "lies a 0 0 @100;", "square 0 0 @0 1;", "square 0 0 @9 1;", "square 0 0 1 @0;",
            "square 0 0 1 @9;", "tide @99999999 1;"};
        for (String text : nots) e.faulty(RAFTS + text, 2);

        e.sentence("of X where there is no such column, Y no such CELL");
        String[] cells = {"raft c 1 1 0 @3 9;", "raft c 1 1 0 1 @2;", "pole @3 9;", "pole 2 @2;", "lies a @3 9 1;", "lies a 2 @2 1;",
            "square @3 9 1 1;", "square 2 @2 1 1;", "pole @99999999 0;", "pole 0 @99999999;"};
        for (String text : cells) e.faulty(RAFTS + text, 2);
        e.faulty("pole @0 0;", 2);

        e.sentence("of a raft at Y, where its CELLS are not all there");
        e.faulty(ROWS + "raft a 2 1 0 2 @0;", 2);
        e.faulty(ROWS + "raft a 3 1 0 1 @0;", 2);
        e.faulty(ROWS + "raft a 1 2 0 0 @1;", 2);
        e.faulty(ROWS + "raft a 1 3 0 0 @0;", 2);
        e.sound(ROWS + "raft a 3 2 0 0 0;", 3);

        e.sentence("of square at HIGH");
        e.faulty(ROWS + "square 0 0 4 @1;", 2);
        e.faulty(ROWS + "square 1 0 3 @1;", 2);
        e.faulty(ROWS + "square 0 0 1 @3;", 2);
        e.faulty(ROWS + "square 0 1 1 @2;", 2);
        e.sound(ROWS + "square 0 0 3 2;", 3);
        e.faulty(ROWS + "square 0 0 4 @x;", 1);

        e.sentence("of rope at GAP)");
        e.faulty(RAFTS + "rope a b @0 0;", 2);
        e.faulty(RAFTS + "rope b a @0 1;", 2);
        e.sound(RAFTS + "rope a b 1 1;", 5);
    }

    private void fault3() {
        e.sentence("3 a NAME told twice, not told, one RAFT twice,");
        e.faulty(ROWS + "raft a 1 1 0 0 0;raft @a 1 1 0 1 0;", 3);
        e.faulty(RAFTS + "raft @b 1 1 0 1 0;", 3);
        String[] nots = {"rope @c a 1 1;", "rope a @c 1 1;", "moor @c 1;", "beside @c a 1;", "beside a @c 1;", "apart @c a 1;", "apart a @c 1;",
            "sun @c east 1;", "lies @c 0 0 1;", "rope @ab a 1 1;"};
        for (String text : nots) e.faulty(RAFTS + text, 3);
        e.faulty(ROWS + "raft a 1 1 0 0 0;moor @b 1;raft b 1 1 0 1 0;", 3);
        e.faulty(RAFTS + "rope a @a 1 1;", 3);
        e.faulty(RAFTS + "rope b @b 0 1;", 3);
        e.faulty(RAFTS + "beside b @b 1;", 3);
        e.faulty(RAFTS + "apart a @a 1;", 3);

        e.sentence("H, a POLE, a rope, a moor or the square told twice (at it: a POLE at Y, a rope at the second RAFT, the square at its WORD)");
        e.faulty("tide 3 1;tide @3 10;", 3);
        e.faulty(ROWS + "pole 1 1;pole 1 @1;", 3);
        e.faulty(RAFTS + "rope a b 1 1;rope a @b 99 1;", 3);
        e.faulty(RAFTS + "rope a b 1 1;rope b @a 99 1;", 3);
        e.faulty(RAFTS + "moor a 1;moor @a 0;", 3);
        e.faulty(ROWS + "square 0 0 1 1;@square 9 9 9 9;", 3);
        e.faulty(ROWS + "square 0 0 1 1;@square", 3);

        e.sentence("a raft on another one (at Y)");
        e.faulty(ROWS + "raft a 1 1 0 0 0;raft b 1 1 0 0 @0;", 3);
        e.faulty(ROWS + "raft a 2 2 0 1 0;raft b 2 1 0 0 @1;", 3);
        e.faulty(RAFTS + "raft c 3 1 0 0 @1;", 3);
    }

    private void fault4() {
        e.sentence("4 a ninth row or RAFT, a seventh POLE, a ninth rope, an eleventh WANT (at the LINE's first WORD).");
        e.faulty("row 0;".repeat(8) + "@row 00;", 4);
        e.faulty("row 0;".repeat(8) + "@row", 4);
        e.faulty(eightRafts() + "@raft a 9 9 9 9 9;", 4);
        e.faulty(eightRafts() + "@raft", 4);
        e.faulty(eightRafts() + sixPoles() + "@pole 0 1;", 4);
        e.faulty(eightRafts() + sixPoles() + "@pole", 4);
        e.faulty(eightRafts() + EIGHT_ROPES + "@rope a b 9 1;", 4);
        e.faulty(eightRafts() + EIGHT_ROPES + "@rope", 4);
        String[] wants = {"beside a b 1;", "apart a b 1;", "sun a east 1;", "lies a 0 0 1;"};
        for (String text : wants) {
            e.sound(eightRafts() + "sun b west 1;".repeat(9) + text, 20);
            e.faulty(eightRafts() + "sun b west 1;".repeat(10) + "@" + text, 4);
            e.faulty(eightRafts() + "sun b west 1;".repeat(10) + "@" + text.substring(0, text.indexOf(' ')), 4);
        }
    }

    private void newLagoon() {
        e.sentence("A new LAGOON: the TOWN as told, no PLAN.");
        RaftTown t = e.town("row 000;raft a 1 1 0 0 0;pole 0 0;");
        e.plan(t, "slide a east;", 1);
        t.move(0, 1, 0);
        e.lies(t, 0, 1, 0, 0);
        e.tellLagoon(t, "row 000;row 000;raft b 1 2 0 2 0;");
        e.lies(t, 0, 2, 0, 0);
        e.is("ACTS", t.count(6), 0);
        e.is("POLES", t.count(3), 0);
        e.noAct(t, 0, 0);
        e.is("judge(0)", t.judge(0), Edges.NONE);
        e.is("QUARTERS", t.judged(1), 0);
        nothingRemains();
    }

    /** A text with the most of all, on ground that is dry in each hour. */
    private static String fullText() {
        StringBuilder text = new StringBuilder("row 99999999;".repeat(8));
        for (int h = 0; h < 24; h++) text.append("tide ").append(h).append(" 9;");
        for (int i = 0; i < 8; i++) text.append("raft ").append((char) ('a' + i)).append(" 1 1 9 ").append(i).append(" 0;");
        for (int i = 0; i < 6; i++) text.append("pole ").append(i).append(" 0;");
        text.append("rope h a 6 1;");
        for (int i = 0; i < 7; i++) text.append("rope ").append((char) ('a' + i)).append(' ').append((char) ('b' + i)).append(" 0 1;");
        for (int i = 0; i < 8; i++) text.append("moor ").append((char) ('a' + i)).append(" 99;");
        return text.append("sun a south 9;".repeat(10)).append("square 0 0 8 8;").toString();
    }

    private void nothingRemains() {
        RaftTown t = new RaftTown();
        for (int i = 0; i < 3; i++) {
            Tape.text(t, fullText());
            e.is("the same text once more", t.lagoon(), 73);
            e.plan(t, "wait 96;", 1);
        }
        Tape.text(t, fullText().replace("square", "squar"));
        e.is("a FAULT at its end", t.lagoon() < 0, true);
        Tape.text(t, "pole 0 0;");
        e.is("no column", t.lagoon(), -6);
        e.is("no LINE", t.lagoon(), 0);
        for (int what = 0; what < 8; what++) e.is("count(" + what + ")", t.count(what), 0);
        e.is("lay() of none", t.lay(), true);
        e.is("all() of none", t.all(), 0);
        for (int i = 0; i < 2; i++) {
            e.tellLagoon(t, fullText());
            e.tellLagoon(t, "row 00;row 00;raft a 1 2 1 0 0;raft h 1 1 0 1 1;");
            plainOne(t);
        }
        for (int ground = 0; ground < 10; ground++) {
            e.tellLagoon(t, "row " + ground + ground + ";raft a 2 1 2 0 0;tide 0 0;");
            e.is("GROUND " + ground, t.aground(1), ground > 3 ? 1 : 0);
            e.is("GROUND " + ground, t.breaks(0), 0);
        }
    }

    private void plainOne(RaftTown t) {
        int[] counts = {2, 2, 2, 0, 0, 0, 0, 0};
        for (int what = 0; what < 8; what++) e.is("count(" + what + ")", t.count(what), counts[what]);
        for (int h = 0; h < 24; h++) {
            e.is("water(1, 1, " + h + ")", t.water(1, 1, h), 5);
            e.is("aground(" + h + ")", t.aground(h), 0);
        }
        e.is("water(2, 0, 0)", t.water(2, 0, 0), Edges.NONE);
        e.noRaft(t, 2, 0);
        e.is("at(1, 0)", t.at(1, 0), Edges.NONE);
        e.is("wants(1)", t.wants(1), 0);
        e.is("storm(1)", t.storm(1), 3);
        e.is("cut(0, 1, 0)", t.cut(0, 1, 0), Edges.NONE);
        e.is("no POLE", t.move(0, 4, 0), 2);
        e.is("nobody there", t.could(0, 1, 0, 0), 0);
        e.is("nobody there", t.could(1, 1, 0, 0), Edges.EVERY_HOUR);
        e.lay(t, 1, 0, 0, 0, 0, 0);
        e.lay(t, 0, 0, 0, 1, 1, 0);
        e.plan(t, "wait 96;slide h north;", 2);
        e.is("no rope, no square", t.judge(0), Edges.NONE);
        e.is("BUSY", t.judged(2), 0);
        e.planFaulty(t, "turn @b;", 3);
        e.plan(t, "", 0);
    }

    private void throwing() {
        e.sentence("A call that throws changes nothing.");
        RaftTown t = e.town("row 000;row 000;raft a 1 1 0 0 0;raft b 1 1 0 2 1;lies a 1 0 5;");
        e.plan(t, "slide a east;", 1);
        e.planFaulty(t, "wait @97;", 2);
        t.judge(9);
        t.best(3, 0);
        t.all();
        t.feed(1, 2, 3, 4, 5);
        for (int i = 0; i < 3; i++) {
            e.noRaft(t, 2, 0);
            e.noRaft(t, 0, 6);
            e.noAct(t, 1, 0);
            e.noAct(t, 0, 2);
        }
        int[] counts = {3, 2, 2, 0, 0, 1, 1, 20};
        for (int what = 0; what < 8; what++) e.is("count(" + what + ")", t.count(what), counts[what]);
        e.is("fault()", t.fault(), 2);
        e.lies(t, 0, 0, 0, 0);
        e.is("act(0, 0)", t.act(0, 0), 1);
        e.is("judged(4)", t.judged(4), 5);
        e.found(t, 1);
        e.is("allAt(0, 0)", t.allAt(0, 0), 1);
    }

    private void promise1() {
        e.section("Promise 1: A new object");
        e.sentence("An empty LAGOON");
        RaftTown t = new RaftTown();
        for (int what = 0; what < 7; what++) e.is("count(" + what + ")", t.count(what), 0);
        e.is("water", t.water(0, 0, 0), Edges.NONE);
        e.is("at", t.at(0, 0), Edges.NONE);
        e.noRaft(t, 0, 0);
        e.noAct(t, 0, 0);
        e.is("aground", t.aground(0), 0);
        e.is("breaks", t.breaks(23), 0);
        e.is("floats", t.floats(0), Edges.NONE);
        e.is("wants(0)", t.wants(0), 0);
        e.is("wants(1)", t.wants(1), 0);
        e.is("storm", t.storm(99), 0);
        e.is("cut", t.cut(0, 0, 0), Edges.NONE);
        e.is("lay() of no RAFTS", t.lay(), true);
        e.is("least() of no RAFTS", t.least(0), 0);
        e.is("best()", t.best(60, 23), 0);
        e.is("all()", t.all(), 0);
        e.is("image(0)", t.image(0), true);

        e.sentence("an empty tape");
        t = new RaftTown();
        e.is("count(7)", t.count(7), 0);
        e.is("end(1)", t.end(1), false);
        e.is("end(0)", t.end(0), true);
        e.is("feed", t.feed(0, 0, 0, 0, 0), 20);
        e.is("two objects have a tape each", new RaftTown().count(7), 0);
    }

    private void promise2() {
        e.section("Promise 2: feed");
        e.sentence("Twenty bytes come behind the tape, of each number the highest first: how many it has");
        RaftTown t = new RaftTown();
        // 'row ', '12;r', 'ow 3', '4;ti', 'de 1' and then ' 9; ' with blanks.
        e.is("feed", t.feed(0x726f7720, 0x31323b72, 0x6f772033, 0x343b7469, 0x64652031), 20);
        e.is("feed", t.feed(0x20393b20, 0x20202020, 0x20202020, 0x20202020, 0x20202020), 40);
        e.is("count(7)", t.count(7), 40);
        e.is("lagoon()", t.lagoon(), 3);
        int[][] water = {{8, 7}, {6, 5}};
        for (int y = 0; y < 2; y++) for (int x = 0; x < 2; x++) e.is("water(" + x + ", " + y + ", 1)", t.water(x, y, 1), water[y][x]);
        // A number below 0 has bytes as any other: 128 is no TOKEN, nor is it a blank.
        t.feed(0x20202020, 0x20202020, 0x20208020, 0x20202020, -1);
        e.is("lagoon()", t.lagoon(), -11);
        t.feed(0x20202020, 0x20202020, 0x20202020, 0x20202020, 0x202020ff);
        e.is("lagoon()", t.lagoon(), -20);

        e.sentence("NONE, and none come, if it would have more than 940.");
        t = new RaftTown();
        Tape.text(t, "row 0;" + blanks(14));
        for (int i = 2; i <= 46; i++) e.is("feed", t.feed(0x20202020, 0x20202020, 0x20202020, 0x20202020, 0x20202020), 20 * i);
        e.is("feed to 940", t.feed(0x20202020, 0x20202020, 0x20202020, 0x20202020, 0x20202020), 940);
        e.is("feed", t.feed(0x78787878, 0x78787878, 0x78787878, 0x78787878, 0x78787878), Edges.NONE);
        e.is("count(7)", t.count(7), 940);
        e.is("end(921)", t.end(921), true);
        e.is("feed from 921", t.feed(0x78787878, 0x78787878, 0x78787878, 0x78787878, 0x78787878), Edges.NONE);
        e.is("count(7)", t.count(7), 921);
        e.is("end(920)", t.end(920), true);
        e.is("feed from 920", t.feed(0x78787878, 0x78787878, 0x78787878, 0x78787878, 0x78787878), 940);
        e.is("end(900)", t.end(900), true);
        e.is("none came: blanks alone", t.lagoon(), 1);
    }

    private void promise3() {
        e.section("Promise 3: end");
        e.sentence("The tape has its first n bytes alone: true");
        RaftTown t = new RaftTown();
        Tape.text(t, "row 12;row 34;xxxxxx");
        e.is("end(20), all of it", t.end(20), true);
        e.is("count(7)", t.count(7), 20);
        e.is("end(14)", t.end(14), true);
        e.is("count(7)", t.count(7), 14);
        e.is("lagoon()", t.lagoon(), 2);
        e.is("water(0, 1, 0)", t.water(0, 1, 0), 2);
        Tape.text(t, "row 12;row 34;");
        e.is("end(7)", t.end(7), true);
        e.is("feed goes on from there", t.feed(0x726f7720, 0x35363b20, 0x20202020, 0x20202020, 0x20202020), 27);
        e.is("lagoon()", t.lagoon(), 2);
        e.is("water(1, 0, 0)", t.water(1, 0, 0), 3);
        e.is("water(0, 1, 0)", t.water(0, 1, 0), 0);
        // A WORD or NUMBER that is cut off ends there.
        Tape.text(t, "tide 1 19;");
        e.is("end(8)", t.end(8), true);
        e.is("lagoon(): the end, not 19", t.lagoon(), -9);
        e.is("fault()", t.fault(), 1);
        Tape.text(t, "row 0;");
        e.is("end(0)", t.end(0), true);
        e.is("count(7)", t.count(7), 0);

        e.sentence("false, if it has not so many, or n is below 0.");
        Tape.text(t, "row 0;");
        e.is("end(7)", t.end(7), false);
        e.is("end(MAX)", t.end(Integer.MAX_VALUE), false);
        e.is("end(-1)", t.end(-1), false);
        e.is("end(MIN)", t.end(Integer.MIN_VALUE), false);
        e.is("count(7)", t.count(7), 6);
        e.is("lagoon()", t.lagoon(), 1);
    }

    private void promise4() {
        e.section("Promise 4: lagoon");
        e.sentence("The tape (empty then, here and below) is the LAGOON now: how many LINES");
        RaftTown t = new RaftTown();
        Tape.text(t, RAFTS);
        e.is("lagoon()", t.lagoon(), 4);
        e.is("the tape behind lagoon()", t.count(7), 0);
        e.is("RAFTS", t.count(2), 2);
        Tape.text(t, "row x;");
        t.lagoon();
        e.is("the tape behind a FAULT", t.count(7), 0);
        Tape.text(t, "wait 1;");
        t.plan();
        e.is("the tape behind plan()", t.count(7), 0);
        Tape.text(t, "wait 0;");
        t.plan();
        e.is("the tape behind a FAULT of plan()", t.count(7), 0);
        Tape.town(t, 1, 1, 0, 2, 0, 0);
        e.is("lay()", t.lay(), true);
        e.is("the tape behind lay()", t.count(7), 0);
        Tape.town(t, 1, 1, 0, 2);
        e.is("lay()", t.lay(), false);
        e.is("the tape behind lay() that was not", t.count(7), 0);
        Tape.town(t, 1, 0, 0, 2, 0, 0);
        e.is("least(0)", t.least(0), 1);
        e.is("the tape behind least()", t.count(7), 0);
        Tape.town(t, 1, 0, 0, 1, 0, 0);
        e.is("least(0)", t.least(0), -2);
        e.is("the tape behind least() that was not", t.count(7), 0);
        Tape.town(t, 1, 0, 0, 2, 0, 0);
        e.is("least(24)", t.least(24), -2);
        e.is("the tape behind least() of no hour", t.count(7), 0);
        e.is("lagoon() of an empty tape", t.lagoon(), 0);
        e.is("an empty LAGOON", t.count(0) + t.count(1) + t.count(2), 0);

        e.sentence("-1 less the place of a FAULT: it stays.");
        e.tellLagoon(t, RAFTS + "pole 1 1;tide 3 9;");
        e.plan(t, "wait 7;", 1);
        t.move(0, 1, 0);
        Tape.text(t, "x");
        e.is("a FAULT at 0", t.lagoon(), -1);
        Tape.text(t, "row 9;row 9;tide 3 1;raft z 1 1 0 0 0;pole 0 0;pole 0 1;z");
        e.is("a FAULT at 56", t.lagoon(), -57);
        int[] counts = {3, 2, 2, 1, 0, 0, 1, 0};
        for (int what = 0; what < 8; what++) e.is("count(" + what + ")", t.count(what), counts[what]);
        e.is("water", t.water(0, 0, 3), 9);
        e.lies(t, 0, 1, 0, 0);
        e.lies(t, 1, 2, 1, 0);
        e.is("act(0, 1)", t.act(0, 1), 7);
        e.plan(t, "turn a;", 1);
    }

    private void promise5() {
        e.section("Promise 5: fault");
        e.sentence("The kind of the FAULT of the latest lagoon() or plan()");
        RaftTown t = e.town(RAFTS);
        Tape.text(t, "x");
        t.lagoon();
        e.is("fault()", t.fault(), 1);
        Tape.text(t, "tide 24 1;");
        t.lagoon();
        e.is("fault()", t.fault(), 2);
        Tape.text(t, "turn z;");
        t.plan();
        e.is("fault()", t.fault(), 3);
        Tape.text(t, "wait 1;".repeat(61));
        t.plan();
        e.is("fault()", t.fault(), 4);
        t.lay();
        t.least(0);
        t.move(0, 9, 0);
        t.image(0);
        t.restore(0);
        t.feed(0, 0, 0, 0, 0);
        t.end(0);
        e.is("fault() behind other calls", t.fault(), 4);

        e.sentence("0 without one and ahead of any.");
        e.is("ahead of any", new RaftTown().fault(), 0);
        t.plan();
        e.is("behind plan() without one", t.fault(), 0);
        Tape.text(t, "x");
        t.lagoon();
        t.lagoon();
        e.is("behind lagoon() without one", t.fault(), 0);
    }
}

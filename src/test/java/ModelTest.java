import java.nio.charset.StandardCharsets;
import java.util.ArrayList;
import java.util.List;
import java.util.NoSuchElementException;
import java.util.Random;

/** Holds the program against PlainModel over random runs of calls; the seeds are fixed, so that each run is the same. */
public final class ModelTest {
    private static int wrong;
    private final Random random;
    private final RaftTown program = new RaftTown();
    private final PlainModel model = new PlainModel();
    private final List<String> calls = new ArrayList<>();
    private int rafts;

    private ModelTest(long seed) { random = new Random(seed); }

    public static void main(String[] args) {
        int runs = args.length > 0 ? Integer.parseInt(args[0]) : 1500;
        long first = args.length > 1 ? Long.parseLong(args[1]) : 1;
        for (int i = 0; i < runs && wrong < 5; i++) new ModelTest(first + i).run(first + i);
        System.out.println(runs + " runs against the plain model, wrong: " + wrong);
        if (wrong > 0) System.exit(1);
    }

    private int upTo(int n) { return random.nextInt(n + 1); }
    private boolean chance(int percent) { return random.nextInt(100) < percent; }
    private int near(int high) { return chance(4) ? (chance(50) ? -1 - upTo(3) : high + 1 + upTo(3)) : chance(1) ? random.nextInt() : upTo(Math.max(high, 0)); }

    private void run(long seed) {
        boolean ok = true;
        for (int text = 0; ok && text < 5; text++) {
            ok = tellLagoon();
            for (int i = 0; ok && i < 60; i++) ok = oneCall();
        }
        if (!ok) {
            wrong++;
            System.out.println("seed " + seed + ":");
            int from = Math.max(0, calls.size() - 90);
            for (String call : calls.subList(from, calls.size())) System.out.println("  " + call);
        }
    }

    private boolean same(String call, long got, long want) {
        calls.add(call + " answered " + got + (got == want ? "" : ", due is " + want));
        return got == want;
    }

    // ---- texts

    private String lagoonText() {
        StringBuilder s = new StringBuilder();
        boolean large = chance(25);
        int columns = large ? 1 + upTo(7) : 1 + upTo(chance(20) ? 4 : 3);
        int rows = large ? 1 + upTo(7) : 1 + upTo(chance(20) ? 4 : 2);
        int deep = chance(50) ? 0 : upTo(chance(70) ? 4 : 9);
        for (int y = 0; y < rows; y++) {
            s.append("row ");
            for (int x = 0; x < columns; x++) s.append(chance(70) ? 0 : upTo(deep));
            s.append(';').append(chance(5) ? "\n" : "");
        }
        if (chance(2)) for (int i = 0; i < 9; i++) s.append("row ").append("0".repeat(columns)).append(';');
        for (int i = upTo(4); i > 0; i--) s.append("tide ").append(upTo(23)).append(' ').append(upTo(9)).append(';');
        int n = chance(5) ? 0 : large ? 1 + upTo(chance(20) ? 8 : 6) : 1 + upTo(columns * rows > 12 && !chance(3) ? 1 : 2);
        List<int[]> taken = new ArrayList<>();
        rafts = 0;
        for (int i = 0; i < n; i++) {
            for (int attempt = 0; attempt < 12; attempt++) {
                int w = 1 + upTo(chance(50) ? 2 : 1), h = 1 + upTo(chance(50) ? 1 : 2);
                int x = upTo(columns - 1), y = upTo(rows - 1);
                boolean fits = x + w <= columns && y + h <= rows;
                for (int[] t : taken) fits &= x + w <= t[0] || t[0] + t[2] <= x || y + h <= t[1] || t[1] + t[3] <= y;
                if (fits || chance(1)) {
                    taken.add(new int[] {x, y, w, h});
                    s.append("raft ").append(name(rafts++)).append(' ').append(w).append(' ').append(h).append(' ')
                            .append(chance(60) ? upTo(2) : upTo(9)).append(' ').append(x).append(' ').append(y).append(';');
                    break;
                }
            }
        }
        List<String> seen = new ArrayList<>();
        for (int i = upTo(chance(10) ? 8 : 4); i > 0; i--) once(s, seen, "pole " + upTo(columns - 1) + " " + upTo(rows - 1));
        List<Integer> pairs = new ArrayList<>();
        if (rafts > 1) for (int i = upTo(chance(10) ? 12 : rafts + 1); i > 0; i--) {
            int a = upTo(rafts - 1), b = upTo(rafts - 1);
            boolean told = a == b || pairs.contains(a * 10 + b) || pairs.contains(b * 10 + a);
            if (told && !chance(1)) continue;
            pairs.add(a * 10 + b);
            int gap = Math.max(taken.get(a)[0] - taken.get(b)[0] - taken.get(b)[2], taken.get(b)[0] - taken.get(a)[0] - taken.get(a)[2]);
            gap = Math.max(gap, Math.max(taken.get(a)[1] - taken.get(b)[1] - taken.get(b)[3], taken.get(b)[1] - taken.get(a)[1] - taken.get(a)[3]));
            gap = Math.min(9, Math.max(gap, 0) + (chance(2) ? -1 : upTo(2)));
            s.append("rope ").append(name(a)).append(' ').append(name(b)).append(' ').append(Math.max(0, gap)).append(' ')
                    .append(1 + upTo(chance(50) ? 4 : 98)).append(';');
        }
        if (rafts > 0) for (int i = upTo(rafts); i > 0; i--) {
            String moor = "moor " + name(upTo(rafts - 1));
            if (!seen.contains(moor)) s.append(moor).append(' ').append(1 + upTo(chance(70) ? 20 : 98)).append(';');
            seen.add(moor);
        }
        if (rafts > 0) for (int i = upTo(chance(3) ? 12 : chance(20) ? 10 : 5); i > 0; i--) s.append(want(columns, rows)).append(';');
        if (chance(70)) {
            int x = upTo(columns - 1), y = upTo(rows - 1);
            s.append("square ").append(x).append(' ').append(y).append(' ').append(1 + upTo(columns - x - 1)).append(' ').append(1 + upTo(rows - y - 1)).append(';');
        }
        return s.toString();
    }

    private void once(StringBuilder s, List<String> seen, String line) {
        if (seen.contains(line) && !chance(2)) return;
        seen.add(line);
        s.append(line).append(';');
    }

    private String want(int columns, int rows) {
        int a = upTo(rafts - 1), b = upTo(rafts - 1);
        String w = " " + (1 + upTo(chance(60) ? 5 : 98));
        if (rafts > 1 && a != b && chance(50)) return (chance(60) ? "beside " : "apart ") + name(a) + " " + name(b) + w;
        if (chance(50)) return "sun " + name(a) + " " + PlainModel.SIDES[upTo(3)] + w;
        return "lies " + name(a) + " " + upTo(columns - 1) + " " + upTo(rows - 1) + w;
    }

    private static String name(int i) { return new String[] {"a", "b", "cc", "house", "zzzzzz", "f", "rows", "h", "i", "j"}[i]; }

    private static final String[] BITS = {"row", "tide", "raft", "pole", "rope", "moor", "beside", "apart", "sun", "lies", "square",
        "north", "east", "south", "west", "slide", "turn", "wait", "a", "b", "cc", "0", "1", "9", "10", "99", "100", "24", "7", "8",
        ";", " ", "\n", "abcdefg", "123456789", "a1", "1a", ".", "A", "\t", "00000001", "12345678", "96", "97", "\u0000"};

    private String spoilt(String text) {
        StringBuilder s = new StringBuilder(text);
        for (int i = 1 + upTo(1); i > 0; i--) {
            int at = upTo(s.length());
            int kind = upTo(4);
            if (kind == 0 && at < s.length()) {
                s.deleteCharAt(at);
            } else if (kind == 1) {
                s.insert(at, BITS[upTo(BITS.length - 1)]);
            } else if (kind == 2) {
                s.setLength(at);
            } else {
                int from = at;
                while (from > 0 && " ;\n".indexOf(s.charAt(from - 1)) < 0) from--;
                int to = at;
                while (to < s.length() && " ;\n".indexOf(s.charAt(to)) < 0) to++;
                s.replace(from, to, BITS[upTo(BITS.length - 1)]);
            }
        }
        return s.toString();
    }

    private String lengthened(String text, int limit) {
        StringBuilder s = new StringBuilder(text);
        int size = limit - 4 + upTo(8);
        int at = upTo(s.length());
        while (at > 0 && " ;".indexOf(s.charAt(at - 1)) < 0) at--;
        if (chance(50)) at = s.length();
        while (s.length() < size) s.insert(at, chance(50) ? ' ' : '\n');
        return s.toString();
    }

    private boolean tellText(String text) {
        byte[] bytes = text.getBytes(StandardCharsets.ISO_8859_1);
        return tellBytes(bytes, text.length() > 0 ? text : "");
    }

    private boolean tellBytes(byte[] bytes, String as) {
        boolean ok = true;
        int length = Math.min(940, bytes.length);
        for (int i = 0; ok && i < length; i += 20) {
            int[] n = new int[5];
            for (int k = 0; k < 20; k++) n[k / 4] = n[k / 4] << 8 | (i + k < length ? bytes[i + k] & 255 : 0);
            ok = program.feed(n[0], n[1], n[2], n[3], n[4]) == model.feed(n);
        }
        calls.add("the tape: " + as.replace("\n", "\\n"));
        return ok && same("end(" + length + ")", program.end(length) ? 1 : 0, model.end(length) ? 1 : 0);
    }

    private boolean tellLagoon() {
        String text = lagoonText();
        boolean ok = true;
        if (chance(30)) {
            ok = tellText(chance(15) ? lengthened(chance(50) ? spoilt(text) : text, 900) : spoilt(text))
                    && same("lagoon()", program.lagoon(), model.lagoon())
                    && same("fault()", program.fault(), model.fault());
        }
        return ok && tellText(text) && same("lagoon()", program.lagoon(), model.lagoon())
                && same("fault()", program.fault(), model.fault());
    }

    private boolean tellPlan() {
        StringBuilder s = new StringBuilder();
        int n = chance(5) ? 58 + upTo(4) : upTo(8);
        for (int i = 0; i < n; i++) {
            int kind = upTo(9);
            if (kind == 0) s.append("wait ").append(1 + upTo(chance(70) ? 6 : 95)).append(';');
            else if (rafts == 0) s.append("wait 1;");
            else if (kind < 3) s.append("turn ").append(name(upTo(rafts - 1))).append(';');
            else s.append("slide ").append(name(upTo(chance(50) ? 0 : rafts - 1))).append(' ').append(PlainModel.SIDES[upTo(3)]).append(';');
        }
        String text = chance(20) ? spoilt(s.toString()) : s.toString();
        if (chance(5)) text = lengthened(text, 700);
        return tellText(text) && same("plan()", program.plan(), model.plan()) && same("fault()", program.fault(), model.fault());
    }

    private boolean tellTown() {
        int n = program.count(2);
        int length = chance(5) ? upTo(3 * n + 3) : 3 * n;
        byte[] bytes = new byte[length];
        List<Integer> now = new ArrayList<>();
        for (int r = 0; r < n; r++) for (int what : new int[] {0, 1, 5}) now.add(program.raft(r, what));
        for (int i = 0; i < length; i++) {
            boolean keep = chance(40) && i < now.size();
            int high = i % 3 == 0 ? program.count(0) - 1 : i % 3 == 1 ? program.count(1) - 1 : 1;
            bytes[i] = (byte) (keep ? now.get(i) : chance(3) ? upTo(255) : upTo(Math.max(0, high)));
        }
        return tellBytes(bytes, java.util.Arrays.toString(bytes));
    }

    // ---- calls

    private boolean oneCall() {
        int r = near(program.count(2) - 1), o = near(program.count(2) - 1);
        int x = near(program.count(0) - 1), y = near(program.count(1) - 1);
        int h = near(23), t = near(1), q = chance(50) ? near(95) : 40 + upTo(14);
        switch (random.nextInt(46)) {
            case 0: return same("water(" + x + ", " + y + ", " + h + ")", program.water(x, y, h), model.water(x, y, h));
            case 1: return sameRaft(r, near(5));
            case 2: return same("at(" + x + ", " + y + ")", program.at(x, y), model.at(x, y));
            case 3: case 4: return tellTown() && same("lay()", program.lay() ? 1 : 0, model.lay() ? 1 : 0);
            case 5: return same("aground(" + h + ")", program.aground(h), model.aground(h));
            case 6: return same("breaks(" + h + ")", program.breaks(h), model.breaks(h));
            case 7: return same("floats(" + r + ")", program.floats(r), model.floats(r));
            case 8: return same("gap(" + r + ", " + o + ")", program.gap(r, o), model.gap(r, o));
            case 9: case 10: case 11: case 12: case 13: case 14: {
                int how = near(4);
                return same("move(" + r + ", " + how + ", " + h + ")", program.move(r, how, h), model.move(r, how, h)) && sameRafts();
            }
            case 15: return same("wants(0)", program.wants(0), model.wants(0));
            case 16: { int what = near(1); return same("wants(" + what + ")", program.wants(what), model.wants(what)); }
            case 17: case 18: case 19: return tellPlan();
            case 20: return sameAct(near(program.count(6) - 1), near(1));
            case 21: case 22: case 23: return same("judge(" + q + ")", program.judge(q), model.judge(q));
            case 24: case 25: { int what = near(4); return same("judged(" + what + ")", program.judged(what), model.judged(what)); }
            case 26: { int what = near(2); return same("judgedAt(" + r + ", " + what + ")", program.judgedAt(r, what), model.judgedAt(r, what)); }
            case 27: return same("tooMany(" + q + ")", program.tooMany(q), model.tooMany(q));
            case 28: return same("instead(" + q + ")", program.instead(q), model.instead(q));
            case 29: return tellTown() && same("least(" + h + ")", program.least(h), model.least(h)) && samePath();
            case 30: case 31: return same("changed(" + r + ", " + o + ", " + h + ")", program.changed(r, o, h), model.changed(r, o, h)) && samePath();
            case 32: case 33: return same("alone(" + r + ", " + x + ", " + y + ", " + t + ", " + h + ")", program.alone(r, x, y, t, h), model.alone(r, x, y, t, h)) && samePath();
            case 34: { int k = chance(60) ? upTo(5) : near(60); return same("best(" + k + ", " + h + ")", program.best(k, h), model.best(k, h)) && samePath(); }
            case 35: return same("all()", program.all(), model.all()) && sameAll();
            case 36: return sameAll();
            case 37: case 38: return same("could(" + r + ", " + x + ", " + y + ", " + t + ")", program.could(r, x, y, t), model.could(r, x, y, t));
            case 39: { int f = chance(70) ? upTo(12) : near(99); return same("storm(" + f + ")", program.storm(f), model.storm(f)); }
            case 40: case 41: { int f = chance(80) ? upTo(5) : near(99); int what = near(1); return same("cut(" + r + ", " + f + ", " + what + ")", program.cut(r, f, what), model.cut(r, f, what)); }
            case 42: { int k = near(1); return same("image(" + k + ")", program.image(k) ? 1 : 0, model.image(k) ? 1 : 0); }
            case 43: { int k = near(1); return !chance(30) || same("restore(" + k + ")", program.restore(k) ? 1 : 0, model.restore(k) ? 1 : 0) && renamed() && sameRafts(); }
            case 44: { int what = near(7); return same("count(" + what + ")", program.count(what), model.count(what)); }
            default: return tapeCalls();
        }
    }

    private boolean renamed() {
        rafts = program.count(2);
        return true;
    }

    private boolean tapeCalls() {
        int a = random.nextInt(), n = near(60);
        boolean ok = true;
        for (int i = chance(5) ? 50 : upTo(2); ok && i > 0; i--) ok = same("feed", program.feed(a, 1, 2, 3, ~a), model.feed(a, 1, 2, 3, ~a));
        ok = ok && same("end(" + n + ")", program.end(n) ? 1 : 0, model.end(n) ? 1 : 0) && same("count(7)", program.count(7), model.count(7));
        return ok && same("end(0)", program.end(0) ? 1 : 0, model.end(0) ? 1 : 0);
    }

    private boolean sameRaft(int r, int what) {
        String got, want;
        try { got = "" + program.raft(r, what); } catch (NoSuchElementException e) { got = "throws"; }
        try { want = "" + model.raft(r, what); } catch (NoSuchElementException e) { want = "throws"; }
        calls.add("raft(" + r + ", " + what + ") answered " + got + ", due is " + want);
        return got.equals(want);
    }

    private boolean sameAct(int i, int what) {
        String got, want;
        try { got = "" + program.act(i, what); } catch (NoSuchElementException e) { got = "throws"; }
        try { want = "" + model.act(i, what); } catch (NoSuchElementException e) { want = "throws"; }
        calls.add("act(" + i + ", " + what + ") answered " + got + ", due is " + want);
        return got.equals(want);
    }

    private boolean sameRafts() {
        boolean ok = true;
        for (int r = 0; ok && r < program.count(2); r++) for (int what = 0; ok && what < 6; what++) ok = sameRaft(r, what);
        return ok;
    }

    private boolean samePath() {
        for (int i = -1; i < 300; i++) {
            if (program.found(i) != model.found(i)) return same("found(" + i + ")", program.found(i), model.found(i));
            if (i >= 0 && model.found(i) < 0) return true;
        }
        return true;
    }

    private boolean sameAll() {
        boolean ok = same("left()", program.left(), model.left());
        for (int r = -1; ok && r < 4; r++) for (int what = -1; ok && what < 4; what++)
            ok = same("allAt(" + r + ", " + what + ")", program.allAt(r, what), model.allAt(r, what));
        return ok;
    }
}

import java.util.ArrayList;
import java.util.Arrays;
import java.util.HashMap;
import java.util.HashSet;
import java.util.LinkedHashMap;
import java.util.List;
import java.util.Map;
import java.util.NoSuchElementException;
import java.util.Set;
import java.util.TreeMap;

/**
 * The document once more, as slow and plain as can be, CELL by CELL and row of ACTS by row of ACTS, so that
 * the program can be held against it. It shares no code and no way of thinking with the program.
 */
final class PlainModel {
    static final class Fault extends RuntimeException {
        final int kind;
        final int place;
        Fault(int kind, int place) { this.kind = kind; this.place = place; }
    }

    static final class Token {
        final String text;
        final int place;
        final char kind; // w word, n number, s semicolon, e end, x none
        Token(String text, int place, char kind) { this.text = text; this.place = place; this.kind = kind; }
    }

    static final class Raft {
        String name;
        int wide, high, draft;
        int[] start;
    }

    static final class Want {
        String kind;
        int a, b, x, y, w;
        String side;
    }

    static final class Lagoon {
        final List<String> rows = new ArrayList<>();
        final Map<Integer, Integer> tide = new TreeMap<>();
        final List<Raft> rafts = new ArrayList<>();
        final List<List<Integer>> poles = new ArrayList<>();
        final List<int[]> ropes = new ArrayList<>();
        final Map<Integer, Integer> moors = new TreeMap<>();
        final List<Want> wants = new ArrayList<>();
        int[] square;

        int columns() { return rows.isEmpty() ? 0 : rows.get(0).length(); }
        boolean cell(int x, int y) { return y >= 0 && y < rows.size() && x >= 0 && x < columns(); }
        int ground(int x, int y) { return rows.get(y).charAt(x) - '0'; }
        int level(int h) { return tide.getOrDefault(h, 5); }
        int water(int x, int y, int h) { return Math.max(0, level(h) - ground(x, y)); }
        int find(String name) {
            for (int i = 0; i < rafts.size(); i++) if (rafts.get(i).name.equals(name)) return i;
            return -1;
        }
    }

    static final String[] SIDES = {"north", "east", "south", "west"};
    static final Set<String> RESERVED = new HashSet<>(Arrays.asList("row", "tide", "raft", "pole", "rope", "moor",
            "beside", "apart", "sun", "lies", "square", "north", "east", "south", "west", "slide", "turn", "wait"));

    private List<Integer> tape = new ArrayList<>();
    private int fault;
    private Lagoon lag = new Lagoon();
    private int[][] town = new int[0][];
    private List<int[]> plan = new ArrayList<>();
    private Object[][] kept = new Object[2][];
    private int[] judged;
    private int[][] judgedTown;
    private List<Integer> path = new ArrayList<>();
    private int[][] allTown;
    private int allLeft = -1;

    // ---- the tape

    int feed(int... numbers) {
        if (tape.size() + 20 > 940) return -1;
        for (int n : numbers) for (int i = 3; i >= 0; i--) tape.add(n >>> 8 * i & 255);
        return tape.size();
    }

    boolean end(int n) {
        if (n < 0 || n > tape.size()) return false;
        tape = new ArrayList<>(tape.subList(0, n));
        return true;
    }

    // ---- texts

    private List<Token> tokens;
    private int next;

    private void tokenize(List<Integer> bytes, int limit) {
        tokens = new ArrayList<>();
        next = 0;
        int i = 0;
        while (i < bytes.size() && i < limit) {
            int c = bytes.get(i);
            if (c == 32 || c == 10) { i++; continue; }
            if (c == ';') { tokens.add(new Token(";", i, 's')); i++; continue; }
            StringBuilder run = new StringBuilder();
            int j = i;
            while (j < bytes.size() && String.valueOf((char) (int) bytes.get(j)).matches("[a-z0-9]")) {
                run.append((char) (int) bytes.get(j));
                j++;
            }
            String text = run.toString();
            char kind = text.matches("[a-z]{1,6}") ? 'w' : text.matches("[0-9]{1,8}") ? 'n' : 'x';
            tokens.add(new Token(text, i, kind));
            if (kind == 'x') return;
            i = j;
        }
        tokens.add(new Token("", Math.min(bytes.size(), limit), 'e'));
    }

    private Token token(char kind) {
        Token t = tokens.get(next++);
        if (t.kind != kind) throw new Fault(1, t.place);
        return t;
    }

    private int number(int low, int high) {
        Token t = token('n');
        int v = Integer.parseInt(t.text);
        if (v < low || v > high) throw new Fault(2, t.place);
        return v;
    }

    private int lastPlace() { return tokens.get(next - 1).place; }

    private String name() {
        Token t = token('w');
        if (RESERVED.contains(t.text)) throw new Fault(1, t.place);
        return t.text;
    }

    private int known(Lagoon l) {
        int r = l.find(name());
        if (r < 0) throw new Fault(3, lastPlace());
        return r;
    }

    private int side() {
        Token t = token('w');
        int s = Arrays.asList(SIDES).indexOf(t.text);
        if (s < 0) throw new Fault(1, t.place);
        return s;
    }

    private int[] cellOf(Lagoon l) {
        int x = number(0, l.columns() - 1);
        int y = number(0, l.rows.size() - 1);
        return new int[] {x, y};
    }

    private void line(Lagoon l) {
        Token word = token('w');
        switch (word.text) {
            case "row": {
                if (l.rows.size() == 8) throw new Fault(4, word.place);
                Token t = token('n');
                if (!l.rows.isEmpty() && t.text.length() != l.columns()) throw new Fault(2, t.place);
                l.rows.add(t.text);
                break;
            }
            case "tide": {
                int h = number(0, 23);
                if (l.tide.containsKey(h)) throw new Fault(3, lastPlace());
                l.tide.put(h, number(0, 9));
                break;
            }
            case "raft": {
                if (l.rafts.size() == 8) throw new Fault(4, word.place);
                Raft r = new Raft();
                r.name = name();
                if (l.find(r.name) >= 0) throw new Fault(3, lastPlace());
                r.wide = number(1, 3);
                r.high = number(1, 3);
                r.draft = number(0, 9);
                int[] c = cellOf(l);
                r.start = new int[] {c[0], c[1], 0};
                List<List<Integer>> cells = cells(r, r.start);
                for (List<Integer> cell : cells) if (!l.cell(cell.get(0), cell.get(1))) throw new Fault(2, lastPlace());
                for (Raft o : l.rafts) for (List<Integer> cell : cells(o, o.start)) if (cells.contains(cell)) throw new Fault(3, lastPlace());
                l.rafts.add(r);
                break;
            }
            case "pole": {
                if (l.poles.size() == 6) throw new Fault(4, word.place);
                int[] c = cellOf(l);
                List<Integer> pole = Arrays.asList(c[0], c[1]);
                if (l.poles.contains(pole)) throw new Fault(3, lastPlace());
                l.poles.add(pole);
                break;
            }
            case "rope": {
                if (l.ropes.size() == 8) throw new Fault(4, word.place);
                int a = known(l);
                int b = known(l);
                if (a == b) throw new Fault(3, lastPlace());
                for (int[] o : l.ropes) if (o[0] == a && o[1] == b || o[0] == b && o[1] == a) throw new Fault(3, lastPlace());
                int g = number(0, 9);
                if (g < gapOf(cells(l.rafts.get(a), l.rafts.get(a).start), cells(l.rafts.get(b), l.rafts.get(b).start))) throw new Fault(2, lastPlace());
                l.ropes.add(new int[] {a, b, g, number(1, 99)});
                break;
            }
            case "moor": {
                int a = known(l);
                if (l.moors.containsKey(a)) throw new Fault(3, lastPlace());
                l.moors.put(a, number(1, 99));
                break;
            }
            case "square": {
                if (l.square != null) throw new Fault(3, word.place);
                int[] c = cellOf(l);
                int w = number(1, 8);
                int h = number(1, 8);
                for (int x = c[0]; x < c[0] + w; x++) for (int y = c[1]; y < c[1] + h; y++) if (!l.cell(x, y)) throw new Fault(2, lastPlace());
                l.square = new int[] {c[0], c[1], w, h};
                break;
            }
            case "beside": case "apart": case "sun": case "lies": {
                if (l.wants.size() == 10) throw new Fault(4, word.place);
                Want w = new Want();
                w.kind = word.text;
                w.a = known(l);
                if (w.kind.equals("sun")) {
                    w.side = SIDES[side()];
                } else if (w.kind.equals("lies")) {
                    int[] c = cellOf(l);
                    w.x = c[0];
                    w.y = c[1];
                } else {
                    w.b = known(l);
                    if (w.a == w.b) throw new Fault(3, lastPlace());
                }
                w.w = number(1, 99);
                l.wants.add(w);
                break;
            }
            default: throw new Fault(1, word.place);
        }
        token('s');
    }

    private List<Integer> take() {
        List<Integer> t = tape;
        tape = new ArrayList<>();
        return t;
    }

    int lagoon() {
        List<Integer> bytes = take();
        try {
            Lagoon l = new Lagoon();
            tokenize(bytes, 900);
            int lines = 0;
            while (tokens.get(next).kind != 'e') { line(l); lines++; }
            if (bytes.size() > 900) throw new Fault(1, 900);
            lag = l;
            town = new int[l.rafts.size()][];
            for (int i = 0; i < town.length; i++) town[i] = l.rafts.get(i).start.clone();
            plan = new ArrayList<>();
            fault = 0;
            return lines;
        } catch (Fault f) {
            fault = f.kind;
            return -1 - f.place;
        }
    }

    int plan() {
        List<Integer> bytes = take();
        try {
            List<int[]> p = new ArrayList<>();
            tokenize(bytes, 700);
            while (tokens.get(next).kind != 'e') {
                Token word = token('w');
                if (!Arrays.asList("slide", "turn", "wait").contains(word.text)) throw new Fault(1, word.place);
                if (p.size() == 60) throw new Fault(4, word.place);
                if (word.text.equals("wait")) {
                    p.add(new int[] {5, number(1, 96)});
                } else {
                    int r = known(lag);
                    p.add(new int[] {word.text.equals("turn") ? 4 : side(), r});
                }
                token('s');
            }
            if (bytes.size() > 700) throw new Fault(1, 700);
            plan = p;
            fault = 0;
            return p.size();
        } catch (Fault f) {
            fault = f.kind;
            return -1 - f.place;
        }
    }

    int fault() { return fault; }

    // ---- towns

    static List<List<Integer>> cells(Raft r, int[] at) {
        int w = at[2] == 1 ? r.high : r.wide;
        int h = at[2] == 1 ? r.wide : r.high;
        List<List<Integer>> out = new ArrayList<>();
        for (int y = at[1]; y < at[1] + h; y++) for (int x = at[0]; x < at[0] + w; x++) out.add(Arrays.asList(x, y));
        return out;
    }

    private List<List<Integer>> cells(int r, int[][] t) { return cells(lag.rafts.get(r), t[r]); }

    static int gapOf(List<List<Integer>> a, List<List<Integer>> b) {
        return Math.max(gapBy(a, b, 0), gapBy(a, b, 1));
    }

    /** Counts the columns (rows) that are right of (below) all of the one and left of (above) all of the other. */
    private static int gapBy(List<List<Integer>> a, List<List<Integer>> b, int axis) {
        int n = 0;
        for (int v = 0; v < 8; v++) {
            boolean aLess = true, aMore = true, bLess = true, bMore = true;
            for (List<Integer> c : a) { aLess &= c.get(axis) < v; aMore &= c.get(axis) > v; }
            for (List<Integer> c : b) { bLess &= c.get(axis) < v; bMore &= c.get(axis) > v; }
            if (aLess && bMore || bLess && aMore) n++;
        }
        return n;
    }

    private boolean inside(List<List<Integer>> cells) {
        for (List<Integer> c : cells) if (!lag.cell(c.get(0), c.get(1))) return false;
        return true;
    }

    private boolean onAnother(int r, List<List<Integer>> cells, int[][] t) {
        for (int o = 0; o < t.length; o++) if (o != r) for (List<Integer> c : cells(o, t)) if (cells.contains(c)) return true;
        return false;
    }

    private boolean floatsOn(int r, List<List<Integer>> cells, int h) {
        for (List<Integer> c : cells) if (lag.water(c.get(0), c.get(1), h) < lag.rafts.get(r).draft) return false;
        return true;
    }

    private boolean tornRope(int r, List<List<Integer>> cells, int[][] t) {
        for (int[] rope : lag.ropes) {
            int o = rope[0] == r ? rope[1] : rope[1] == r ? rope[0] : -1;
            if (o >= 0 && gapOf(cells, cells(o, t)) > rope[2]) return true;
        }
        return false;
    }

    private boolean square(int r) { return lag.rafts.get(r).wide == lag.rafts.get(r).high; }

    /** {why, x, y, turned}. */
    private int[] tryMove(int[][] t, int r, int how, int h) {
        List<List<Integer>> from = cells(r, t);
        if (!floatsOn(r, from, h)) return new int[] {1};
        List<List<Integer>> to = new ArrayList<>();
        int turned = t[r][2];
        if (how == 4) {
            List<Integer> pole = null;
            for (List<Integer> p : lag.poles) if (pole == null && from.contains(p)) pole = p;
            if (pole == null) return new int[] {2};
            for (List<Integer> c : from) {
                int east = c.get(0) - pole.get(0);
                int south = c.get(1) - pole.get(1);
                // East goes to the south; south to the west.
                to.add(Arrays.asList(pole.get(0) - south, pole.get(1) + east));
            }
            if (!square(r)) turned = 1 - turned;
        } else {
            int[][] d = {{0, -1}, {1, 0}, {0, 1}, {-1, 0}};
            for (List<Integer> c : from) to.add(Arrays.asList(c.get(0) + d[how][0], c.get(1) + d[how][1]));
        }
        if (!inside(to)) return new int[] {3};
        if (onAnother(r, to, t)) return new int[] {4};
        if (!floatsOn(r, to, h)) return new int[] {5};
        if (tornRope(r, to, t)) return new int[] {6};
        int x = 99, y = 99;
        for (List<Integer> c : to) { x = Math.min(x, c.get(0)); y = Math.min(y, c.get(1)); }
        return new int[] {0, x, y, turned};
    }

    static int[][] copy(int[][] t) {
        int[][] out = new int[t.length][];
        for (int i = 0; i < t.length; i++) out[i] = t[i].clone();
        return out;
    }

    private int[][] after(int[][] t, int r, int how, int h) {
        int[] m = tryMove(t, r, how, h);
        if (m[0] != 0) return null;
        int[][] out = copy(t);
        out[r] = new int[] {m[1], m[2], m[3]};
        return out;
    }

    private boolean so(Want w, int[][] t) {
        List<List<Integer>> own = cells(w.a, t);
        switch (w.kind) {
            case "lies": return own.contains(Arrays.asList(w.x, w.y));
            case "sun": {
                int s = Arrays.asList(SIDES).indexOf(w.side);
                int[][] d = {{0, -1}, {1, 0}, {0, 1}, {-1, 0}};
                for (List<Integer> c : own) {
                    List<Integer> n = Arrays.asList(c.get(0) + d[s][0], c.get(1) + d[s][1]);
                    for (int o = 0; o < t.length; o++) if (o != w.a && cells(o, t).contains(n)) return false;
                }
                return true;
            }
            default: {
                boolean touch = false;
                for (List<Integer> c : own) for (List<Integer> e : cells(w.b, t))
                    touch |= Math.abs(c.get(0) - e.get(0)) + Math.abs(c.get(1) - e.get(1)) == 1;
                return touch == w.kind.equals("beside");
            }
        }
    }

    private int soBits(int[][] t) {
        int bits = 0;
        for (int i = 0; i < lag.wants.size(); i++) if (so(lag.wants.get(i), t)) bits |= 1 << i;
        return bits;
    }

    private int met(int[][] t) {
        int sum = 0;
        for (Want w : lag.wants) if (so(w, t)) sum += w.w;
        return sum;
    }

    private boolean raftIs(int r) { return r >= 0 && r < lag.rafts.size(); }
    private static boolean hour(int h) { return h >= 0 && h <= 23; }
    private static boolean quarter(int q) { return q >= 0 && q <= 95; }

    int water(int x, int y, int h) { return lag.cell(x, y) && hour(h) ? lag.water(x, y, h) : -1; }

    int raft(int r, int what) {
        if (!raftIs(r) || what < 0 || what > 5) throw new NoSuchElementException();
        Raft f = lag.rafts.get(r);
        boolean t = town[r][2] == 1;
        return new int[] {town[r][0], town[r][1], t ? f.high : f.wide, t ? f.wide : f.high, f.draft, town[r][2]}[what];
    }

    int at(int x, int y) {
        for (int r = 0; r < town.length; r++) if (cells(r, town).contains(Arrays.asList(x, y))) return r;
        return -1;
    }

    private int[][] townOf(List<Integer> bytes) {
        int n = lag.rafts.size();
        if (bytes.size() != 3 * n) return null;
        int[][] t = new int[n][];
        for (int r = 0; r < n; r++) {
            t[r] = new int[] {bytes.get(3 * r), bytes.get(3 * r + 1), bytes.get(3 * r + 2)};
            if (t[r][2] > 1) return null;
            if (square(r)) t[r][2] = 0;
        }
        return whole(t) ? t : null;
    }

    private boolean whole(int[][] t) {
        for (int r = 0; r < t.length; r++) if (!inside(cells(r, t)) || onAnother(r, cells(r, t), t)) return false;
        return true;
    }

    boolean lay() {
        int[][] t = townOf(take());
        if (t != null) town = t;
        return t != null;
    }

    int aground(int h) {
        if (!hour(h)) return -1;
        int bits = 0;
        for (int r = 0; r < town.length; r++) if (!floatsOn(r, cells(r, town), h)) bits |= 1 << r;
        return bits;
    }

    int breaks(int h) {
        if (!hour(h)) return -1;
        int bits = 0;
        for (int r = 0; r < town.length; r++) {
            if (floatsOn(r, cells(r, town), h)) continue;
            for (List<Integer> c : cells(r, town)) for (List<Integer> d : cells(r, town))
                if (lag.ground(c.get(0), c.get(1)) - lag.ground(d.get(0), d.get(1)) > 1) bits |= 1 << r;
        }
        return bits;
    }

    int floats(int r) {
        if (!raftIs(r)) return -1;
        int bits = 0;
        for (int h = 0; h < 24; h++) if (floatsOn(r, cells(r, town), h)) bits |= 1 << h;
        return bits;
    }

    int gap(int a, int b) {
        if (!raftIs(a) || !raftIs(b) || a == b) return -1;
        return gapOf(cells(a, town), cells(b, town));
    }

    int move(int r, int how, int h) {
        if (!raftIs(r) || how < 0 || how > 4 || !hour(h)) return -1;
        int[] m = tryMove(town, r, how, h);
        if (m[0] == 0) town[r] = new int[] {m[1], m[2], m[3]};
        return m[0];
    }

    int wants(int what) { return what == 0 ? met(town) : what == 1 ? soBits(town) : -1; }

    // ---- plans

    int act(int i, int what) {
        if (i < 0 || i >= plan.size() || what < 0 || what > 1) throw new NoSuchElementException();
        return plan.get(i)[what];
    }

    /** {first wrong, why, quarters, busy, first busy}; the town at the end in endTown. */
    private int[][] endTown;

    private int[] doPlan(List<int[]> acts, int q0) {
        int[][] t = copy(town);
        int q = q0, busy = 0, first = -1;
        for (int i = 0; i < acts.size(); i++) {
            int[] a = acts.get(i);
            int takes = a[0] == 5 ? a[1] : 1;
            int[][] then = t;
            if (a[0] != 5) {
                int h = q / 4 % 24;
                then = after(t, a[1], a[0], h);
                if (then == null) {
                    endTown = t;
                    return new int[] {i, tryMove(t, a[1], a[0], h)[0], q - q0, busy, first};
                }
            }
            for (int k = 0; k < takes; k++, q++) {
                if (q % 96 >= 48 && q % 96 <= 51 && squareTaken(t)) {
                    busy++;
                    if (first < 0) first = q - q0;
                }
            }
            t = then;
        }
        endTown = t;
        return new int[] {-1, 0, q - q0, busy, first};
    }

    private boolean squareTaken(int[][] t) {
        if (lag.square == null) return false;
        for (int r = 0; r < t.length; r++) for (List<Integer> c : cells(r, t)) {
            int dx = c.get(0) - lag.square[0];
            int dy = c.get(1) - lag.square[1];
            if (dx >= 0 && dx < lag.square[2] && dy >= 0 && dy < lag.square[3]) return true;
        }
        return false;
    }

    int judge(int q) {
        if (!quarter(q)) return -2;
        int[] j = doPlan(plan, q);
        judgedTown = copy(endTown);
        judged = new int[] {j[1], j[2], j[3], j[4], met(endTown)};
        return j[0];
    }

    int judged(int what) { return judged == null || what < 0 || what > 4 ? -1 : judged[what]; }

    int judgedAt(int r, int what) {
        return judgedTown == null || r < 0 || r >= judgedTown.length || what < 0 || what > 2 ? -1 : judgedTown[r][what];
    }

    int tooMany(int q) {
        if (!quarter(q)) return -2;
        for (int i = 0; i < plan.size(); i++) {
            List<int[]> less = new ArrayList<>(plan);
            less.remove(i);
            if (doPlan(less, q)[0] < 0) return i;
        }
        return -1;
    }

    int instead(int q) {
        if (!quarter(q)) return -2;
        for (int i = 0; i < plan.size(); i++) {
            if (plan.get(i)[0] == 5) continue;
            for (int how = 0; how < 5; how++) {
                if (how == plan.get(i)[0]) continue;
                List<int[]> other = new ArrayList<>(plan);
                other.set(i, new int[] {how, plan.get(i)[1]});
                if (doPlan(other, q)[0] < 0) return 10 * i + how;
            }
        }
        return -1;
    }

    // ---- searches

    private boolean small() { return lag.rafts.size() <= 3 && lag.columns() * lag.rows.size() <= 25; }

    private static int compare(List<Integer> a, List<Integer> b) {
        for (int i = 0; i < a.size(); i++) {
            int c = Integer.compare(a.get(i), b.get(i));
            if (c != 0) return c;
        }
        return 0;
    }

    /** Level by level: each TOWN that is new there, with the first of all its rows of ACTS. */
    private List<Map<String, Object[]>> levels(int h, int only, int most, String goal) {
        List<Map<String, Object[]>> out = new ArrayList<>();
        Set<String> seen = new HashSet<>();
        Map<String, Object[]> level = new LinkedHashMap<>();
        level.put(Arrays.deepToString(town), new Object[] {town, new ArrayList<Integer>()});
        while (!level.isEmpty()) {
            out.add(level);
            seen.addAll(level.keySet());
            if (level.containsKey(goal) || out.size() > most) break;
            Map<String, Object[]> then = new HashMap<>();
            for (Object[] s : level.values()) {
                for (int r = 0; r < town.length; r++) {
                    if (only >= 0 && r != only) continue;
                    for (int how = 0; how < 5; how++) {
                        int[][] t = after((int[][]) s[0], r, how, h);
                        if (t == null) continue;
                        String key = Arrays.deepToString(t);
                        if (seen.contains(key)) continue;
                        @SuppressWarnings("unchecked")
                        List<Integer> p = new ArrayList<>((List<Integer>) s[1]);
                        p.add(10 * r + how);
                        @SuppressWarnings("unchecked")
                        boolean lesser = !then.containsKey(key) || compare(p, (List<Integer>) then.get(key)[1]) < 0;
                        if (lesser) then.put(key, new Object[] {t, p});
                    }
                }
            }
            level = then;
        }
        return out;
    }

    @SuppressWarnings("unchecked")
    private int reach(int[][] target, int h, int only) {
        String goal = Arrays.deepToString(target);
        List<Map<String, Object[]>> all = levels(h, only, 100000, goal);
        Object[] last = all.get(all.size() - 1).get(goal);
        if (last == null) return -1;
        path = (List<Integer>) last[1];
        return path.size();
    }

    int least(int h) {
        int[][] t = townOf(take());
        if (t == null || !hour(h) || !small()) return -2;
        return reach(t, h, -1);
    }

    int changed(int a, int b, int h) {
        if (!raftIs(a) || !raftIs(b) || a == b || !hour(h) || !small()) return -2;
        int[][] t = copy(town);
        t[a] = new int[] {town[b][0], town[b][1], town[a][2]};
        t[b] = new int[] {town[a][0], town[a][1], town[b][2]};
        return whole(t) ? reach(t, h, -1) : -2;
    }

    int alone(int r, int x, int y, int turned, int h) {
        if (!raftIs(r) || turned < 0 || turned > 1 || !hour(h) || !lag.cell(x, y)) return -2;
        int[][] t = copy(town);
        t[r] = new int[] {x, y, square(r) ? 0 : turned};
        return inside(cells(r, t)) ? reach(t, h, r) : -2;
    }

    @SuppressWarnings("unchecked")
    int best(int k, int h) {
        if (k < 0 || k > 60 || !hour(h) || !small()) return -2;
        int most = -1;
        for (Map<String, Object[]> level : levels(h, -1, k, "")) {
            int levelMost = most;
            List<Integer> first = null;
            for (Object[] s : level.values()) {
                int m = met((int[][]) s[0]);
                List<Integer> p = (List<Integer>) s[1];
                if (m > levelMost || m == levelMost && first != null && compare(p, first) < 0) {
                    levelMost = m;
                    first = p;
                }
            }
            if (levelMost > most) {
                most = levelMost;
                path = first;
            }
        }
        return most;
    }

    int found(int i) { return i < 0 || i >= path.size() ? -1 : path.get(i); }

    private int allMost;

    int all() {
        if (!small()) return -2;
        allMost = -1;
        layAll(new int[town.length][], 0);
        allLeft = ((1 << lag.wants.size()) - 1) & ~soBits(allTown);
        return allMost;
    }

    private void layAll(int[][] t, int r) {
        if (r == t.length) {
            for (int i = 0; i < r; i++) if (onAnother(i, cells(i, t), t) || tornRope(i, cells(i, t), t)) return;
            if (met(t) > allMost) {
                allMost = met(t);
                allTown = copy(t);
            }
            return;
        }
        for (int turned = 0; turned < 2; turned++) for (int y = 0; y < 8; y++) for (int x = 0; x < 8; x++) {
            if (turned == 1 && square(r)) continue;
            t[r] = new int[] {x, y, turned};
            if (inside(cells(r, t))) layAll(t, r + 1);
        }
    }

    int allAt(int r, int what) {
        return allTown == null || r < 0 || r >= allTown.length || what < 0 || what > 2 ? -1 : allTown[r][what];
    }

    int left() { return allLeft; }

    int could(int r, int x, int y, int turned) {
        if (!raftIs(r) || turned < 0 || turned > 1 || !lag.cell(x, y)) return -1;
        int[][] t = copy(town);
        t[r] = new int[] {x, y, turned};
        List<List<Integer>> there = cells(r, t);
        if (!inside(there)) return -1;
        if (onAnother(r, there, t) || tornRope(r, there, t)) return 0;
        int bits = 0;
        for (int h = 0; h < 24; h++) if (floatsOn(r, there, h)) bits |= 1 << h;
        return bits;
    }

    // ---- storms

    private boolean driven(int r, int force, int cut) {
        Set<Integer> group = new HashSet<>();
        List<Integer> todo = new ArrayList<>(Arrays.asList(r));
        while (!todo.isEmpty()) {
            int one = todo.remove(0);
            if (!group.add(one)) continue;
            for (int i = 0; i < lag.ropes.size(); i++) {
                int[] rope = lag.ropes.get(i);
                if ((cut >> i & 1) != 0) continue;
                if (rope[0] == one) todo.add(rope[1]);
                if (rope[1] == one) todo.add(rope[0]);
            }
        }
        int pull = 0, hold = 0;
        for (int one : group) {
            pull += force * lag.rafts.get(one).wide * lag.rafts.get(one).high;
            hold += lag.moors.getOrDefault(one, 0);
        }
        return pull > hold;
    }

    int storm(int force) {
        if (force < 0 || force > 99) return -1;
        int bits = 0;
        for (int r = 0; r < town.length; r++) if (driven(r, force, 0)) bits |= 1 << r;
        return bits;
    }

    int cut(int r, int force, int what) {
        if (!raftIs(r) || force < 0 || force > 99 || what < 0 || what > 1) return -1;
        long best = -1;
        for (int set = 0; set < 1 << lag.ropes.size(); set++) {
            if (driven(r, force, set)) continue;
            long holds = 0;
            for (int i = 0; i < lag.ropes.size(); i++) if ((set >> i & 1) != 0) holds += lag.ropes.get(i)[3];
            long key = holds * 1000000 + Integer.bitCount(set) * 1000 + set;
            if (best < 0 || key < best) best = key;
        }
        if (best < 0) return -1;
        return what == 0 ? (int) (best / 1000000) : (int) (best % 1000);
    }

    // ---- images

    boolean image(int k) {
        if (k < 0 || k > 1) return false;
        kept[k] = new Object[] {lag, copy(town), new ArrayList<>(plan)};
        return true;
    }

    @SuppressWarnings("unchecked")
    boolean restore(int k) {
        if (k < 0 || k > 1 || kept[k] == null) return false;
        lag = (Lagoon) kept[k][0];
        town = copy((int[][]) kept[k][1]);
        plan = new ArrayList<>((List<int[]>) kept[k][2]);
        return true;
    }

    int count(int what) {
        switch (what) {
            case 0: return lag.columns();
            case 1: return lag.rows.size();
            case 2: return lag.rafts.size();
            case 3: return lag.poles.size();
            case 4: return lag.ropes.size();
            case 5: return lag.wants.size();
            case 6: return plan.size();
            case 7: return tape.size();
            default: return -1;
        }
    }
}

import java.util.Arrays;
import java.util.NoSuchElementException;

/**
 * Houses on rafts in a lagoon, set anew by each tide.
 *
 * A CELL is told as a number, 8 * Y + X, and a set of CELLS as the bits of a long, so that 'on another one'
 * and 'beside' are a mask each. Where a RAFT lies is told as a SPOT: the CELL of its corner, and 64 more if it
 * is turned; a RAFT as wide as high never has the 64, so that two SPOTS are alike only as numbers.
 */
public final class RaftTown {
    public static final int NONE = -1;

    private static final int NOT_AS_TOLD = -2;
    private static final int TAPE_MOST = 940;
    private static final int LAGOON_MOST = 900;
    private static final int PLAN_MOST = 700;
    private static final int HOURS = 24;
    private static final int TIDE_UNTOLD = 5;
    private static final int NOON = 12;
    private static final int QUARTERS = 96;
    private static final int FORCE_MOST = 99;
    private static final int STEPS_MOST = 60;
    private static final int IMAGES = 2;

    private static final int SIDE_MOST = 8;
    private static final int RAFTS_MOST = 8;
    private static final int POLES_MOST = 6;
    private static final int ROPES_MOST = 8;
    private static final int WANTS_MOST = 10;
    private static final int ACTS_MOST = 60;

    private static final int TURN_HOW = 4;
    private static final int HOWS = 5;
    private static final int WAIT_HOW = 5;

    private static final int CELL_BITS = 63;
    private static final int TURNED_BIT = 64;
    private static final int SPOTS = 128;
    private static final long WEST_COLUMN = 0x0101010101010101L;
    private static final long EAST_COLUMN = 0x8080808080808080L;

    private final byte[] tape = new byte[TAPE_MOST];
    private int tapeLength;
    private int faultKind;
    private final LagoonText lagoonText = new LagoonText();
    private final PlanText planText = new PlanText();
    private final Scene now = new Scene();
    private final Scene[] kept = new Scene[IMAGES];
    private final Town spare = new Town(now.lagoon);
    private final Trial latest = new Trial(now.lagoon);
    private final Trial ahead = new Trial(now.lagoon);
    private final Trial probe = new Trial(now.lagoon);
    private boolean judgedOnce;
    private int judgedRafts;
    private int judgedMet;
    private final Search search = new Search(now.lagoon);

    public RaftTown() {
        tapeLength = 0;
    }

    public int feed(int a, int b, int c, int d, int e) {
        if (tapeLength + 20 > TAPE_MOST) {
            return NONE;
        }
        putBytes(a);
        putBytes(b);
        putBytes(c);
        putBytes(d);
        putBytes(e);
        return tapeLength;
    }

    private void putBytes(int number) {
        for (int shift = 24; shift >= 0; shift -= 8) {
            if (tapeLength < TAPE_MOST) {
                tape[tapeLength] = (byte) (number >> shift);
                tapeLength++;
            }
        }
    }

    public boolean end(int n) {
        if (n < 0 || n > tapeLength) {
            return false;
        }
        tapeLength = n;
        return true;
    }

    private int takeTape() {
        int length = tapeLength;
        tapeLength = 0;
        return length;
    }

    public int lagoon() {
        int lines = lagoonText.readLines(tape, takeTape());
        faultKind = lagoonText.fault;
        if (faultKind != 0) {
            return -1 - lagoonText.faultAt;
        }
        lagoonText.fresh = now.begin(lagoonText.fresh);
        return lines;
    }

    public int fault() {
        return faultKind;
    }

    public int water(int x, int y, int h) {
        if (!now.lagoon.hasCell(x, y) || !isHour(h)) {
            return NONE;
        }
        return Math.max(0, now.lagoon.tide[h] - now.lagoon.ground[8 * y + x]);
    }

    public int raft(int r, int what) throws NoSuchElementException {
        if (!isRaft(r) || what < 0 || what > 5) {
            throw new NoSuchElementException();
        }
        int spot = now.town.spots[r];
        switch (what) {
            case 0: return spot & 7;
            case 1: return spot >> 3 & 7;
            case 2: return now.lagoon.wideAt(r, spot);
            case 3: return now.lagoon.highAt(r, spot);
            case 4: return now.lagoon.draft[r];
            default: return spot >> 6;
        }
    }

    public int at(int x, int y) {
        if (!now.lagoon.hasCell(x, y)) {
            return NONE;
        }
        for (int r = 0; r < now.lagoon.raftCount; r++) {
            if ((now.town.covers[r] >>> (8 * y + x) & 1) != 0) {
                return r;
            }
        }
        return NONE;
    }

    public boolean lay() {
        if (!spare.readBytes(now.lagoon, tape, takeTape())) {
            return false;
        }
        now.town.follow(now.lagoon, spare);
        return true;
    }

    public int aground(int h) {
        if (!isHour(h)) {
            return NONE;
        }
        int bits = 0;
        for (int r = 0; r < now.lagoon.raftCount; r++) {
            if (!now.lagoon.carries(r, now.town.covers[r], h)) {
                bits |= 1 << r;
            }
        }
        return bits;
    }

    public int breaks(int h) {
        int sitting = aground(h);
        if (sitting < 0) {
            return NONE;
        }
        int bits = 0;
        for (int r = 0; r < now.lagoon.raftCount; r++) {
            if ((sitting >> r & 1) != 0 && now.lagoon.isUneven(now.town.covers[r])) {
                bits |= 1 << r;
            }
        }
        return bits;
    }

    public int floats(int r) {
        if (!isRaft(r)) {
            return NONE;
        }
        return now.lagoon.hoursCarrying(r, now.town.covers[r]);
    }

    public int gap(int a, int b) {
        if (!isRaft(a) || !isRaft(b) || a == b) {
            return NONE;
        }
        return now.lagoon.between(a, now.town.spots[a], b, now.town.spots[b]);
    }

    public int move(int r, int how, int h) {
        if (!isRaft(r) || how < 0 || how > TURN_HOW || !isHour(h)) {
            return NONE;
        }
        int spot = now.town.attempt(r, how, h);
        if (spot < 0) {
            return -spot;
        }
        now.town.put(r, spot);
        return 0;
    }

    public int wants(int what) {
        if (what == 0) {
            return now.town.met();
        }
        return what == 1 ? now.town.metBits() : NONE;
    }

    public int plan() {
        int acts = planText.readActs(now.lagoon, tape, takeTape());
        faultKind = planText.fault;
        if (faultKind != 0) {
            return -1 - planText.faultAt;
        }
        now.setActs(acts, planText.hows, planText.whos);
        return acts;
    }

    public int act(int i, int what) throws NoSuchElementException {
        if (i < 0 || i >= now.actCount || what < 0 || what > 1) {
            throw new NoSuchElementException();
        }
        return what == 0 ? now.hows[i] : now.whos[i];
    }

    public int judge(int quarter) {
        if (!isQuarter(quarter)) {
            return NOT_AS_TOLD;
        }
        latest.begin(now.lagoon, now.town, quarter);
        int wrong = latest.runFrom(now, 0);
        judgedOnce = true;
        judgedRafts = now.lagoon.raftCount;
        judgedMet = latest.town.met();
        return wrong;
    }

    public int judged(int what) {
        if (!judgedOnce) {
            return NONE;
        }
        switch (what) {
            case 0: return latest.why;
            case 1: return latest.elapsed;
            case 2: return latest.busy;
            case 3: return latest.firstBusy;
            case 4: return judgedMet;
            default: return NONE;
        }
    }

    public int judgedAt(int r, int what) {
        if (!judgedOnce || r < 0 || r >= judgedRafts) {
            return NONE;
        }
        return partOfSpot(latest.town.spots[r], what);
    }

    public int tooMany(int quarter) {
        if (!isQuarter(quarter)) {
            return NOT_AS_TOLD;
        }
        ahead.begin(now.lagoon, now.town, quarter);
        for (int i = 0; i < now.actCount; i++) {
            probe.follow(ahead);
            if (probe.runFrom(now, i + 1) == NONE) {
                return i;
            }
            // An ACT that is WRONG here stays so, whichever later one is left out.
            if (!ahead.step(now.hows[i], now.whos[i])) {
                return NONE;
            }
        }
        return NONE;
    }

    public int instead(int quarter) {
        if (!isQuarter(quarter)) {
            return NOT_AS_TOLD;
        }
        ahead.begin(now.lagoon, now.town, quarter);
        for (int i = 0; i < now.actCount; i++) {
            for (int how = 0; how < HOWS && now.hows[i] != WAIT_HOW; how++) {
                probe.follow(ahead);
                if (how != now.hows[i] && probe.step(how, now.whos[i]) && probe.runFrom(now, i + 1) == NONE) {
                    return 10 * i + how;
                }
            }
            if (!ahead.step(now.hows[i], now.whos[i])) {
                return NONE;
            }
        }
        return NONE;
    }

    public int least(int h) {
        boolean laid = spare.readBytes(now.lagoon, tape, takeTape());
        if (!laid || !isHour(h) || !now.lagoon.isSmall()) {
            return NOT_AS_TOLD;
        }
        return search.leastActs(now.lagoon, now.town, spare, h);
    }

    public int changed(int a, int b, int h) {
        if (!isRaft(a) || !isRaft(b) || a == b || !isHour(h) || !now.lagoon.isSmall()) {
            return NOT_AS_TOLD;
        }
        spare.follow(now.lagoon, now.town);
        int spotOfA = now.town.spots[a];
        int spotOfB = now.town.spots[b];
        spare.put(a, spotOfA & TURNED_BIT | spotOfB & CELL_BITS);
        spare.put(b, spotOfB & TURNED_BIT | spotOfA & CELL_BITS);
        if (!spare.isSound()) {
            return NOT_AS_TOLD;
        }
        return search.leastActs(now.lagoon, now.town, spare, h);
    }

    public int alone(int r, int x, int y, int turned, int h) {
        int spot = spotFor(r, x, y, turned);
        if (spot < 0 || !isHour(h)) {
            return NOT_AS_TOLD;
        }
        return search.leastAlone(now.lagoon, now.town, r, spot, h);
    }

    public int best(int k, int h) {
        if (k < 0 || k > STEPS_MOST || !isHour(h) || !now.lagoon.isSmall()) {
            return NOT_AS_TOLD;
        }
        return search.mostMet(now.lagoon, now.town, k, h);
    }

    public int found(int i) {
        if (i < 0 || i >= search.actCount) {
            return NONE;
        }
        return search.acts[i];
    }

    public int all() {
        if (!now.lagoon.isSmall()) {
            return NOT_AS_TOLD;
        }
        return search.mostMetAnywhere(now.lagoon);
    }

    public int allAt(int r, int what) {
        if (r < 0 || r >= search.allRafts) {
            return NONE;
        }
        return partOfSpot(search.allSpots[r], what);
    }

    public int left() {
        return search.allLeft;
    }

    public int could(int r, int x, int y, int turned) {
        int spot = spotFor(r, x, y, turned);
        if (spot < 0) {
            return NONE;
        }
        long there = now.lagoon.coverAt(r, spot);
        if ((there & now.town.coveredBut(r)) != 0 || !now.town.ropesReach(r, spot)) {
            return 0;
        }
        return now.lagoon.hoursCarrying(r, there);
    }

    public int storm(int force) {
        if (force < 0 || force > FORCE_MOST) {
            return NONE;
        }
        int bits = 0;
        for (int r = 0; r < now.lagoon.raftCount; r++) {
            if (now.lagoon.isDriven(r, force, 0)) {
                bits |= 1 << r;
            }
        }
        return bits;
    }

    public int cut(int r, int force, int what) {
        if (!isRaft(r) || force < 0 || force > FORCE_MOST || what < 0 || what > 1) {
            return NONE;
        }
        int set = now.lagoon.leastCut(r, force);
        if (set < 0 || what == 1) {
            return set;
        }
        return now.lagoon.ropes.holdsOf(set);
    }

    public boolean image(int k) {
        if (k < 0 || k >= IMAGES) {
            return false;
        }
        if (kept[k] == null) {
            kept[k] = new Scene();
        }
        kept[k].copy(now);
        return true;
    }

    public boolean restore(int k) {
        if (k < 0 || k >= IMAGES || kept[k] == null) {
            return false;
        }
        now.copy(kept[k]);
        return true;
    }

    public int count(int what) {
        switch (what) {
            case 0: return now.lagoon.columns;
            case 1: return now.lagoon.rows;
            case 2: return now.lagoon.raftCount;
            case 3: return now.lagoon.poleCount;
            case 4: return now.lagoon.ropes.ropeCount;
            case 5: return now.lagoon.wishes.wantCount;
            case 6: return now.actCount;
            case 7: return tapeLength;
            default: return NONE;
        }
    }

    private boolean isRaft(int r) {
        return r >= 0 && r < now.lagoon.raftCount;
    }

    private static boolean isHour(int h) {
        return h >= 0 && h < HOURS;
    }

    private static boolean isQuarter(int quarter) {
        return quarter >= 0 && quarter < QUARTERS;
    }

    private int spotFor(int r, int x, int y, int turned) {
        if (!isRaft(r) || !now.lagoon.hasCell(x, y) || turned < 0 || turned > 1) {
            return NONE;
        }
        int spot = now.lagoon.spotOf(r, 8 * y + x, turned);
        return now.lagoon.holds(r, spot) ? spot : NONE;
    }

    private static int partOfSpot(int spot, int what) {
        switch (what) {
            case 0: return spot & 7;
            case 1: return spot >> 3 & 7;
            case 2: return spot >> 6;
            default: return NONE;
        }
    }

    /** A block of CELLS with its corner in the CELL 0. */
    private static long blockOf(int wide, int high) {
        long line = (1L << wide) - 1;
        long block = 0;
        for (int i = 0; i < high; i++) {
            block |= line << 8 * i;
        }
        return block;
    }

    /** LAGOON, TOWN and PLAN: what an image keeps. */
    private static final class Scene {
        Lagoon lagoon = new Lagoon();
        final Town town = new Town(lagoon);
        int actCount;
        final int[] hows = new int[ACTS_MOST];
        final int[] whos = new int[ACTS_MOST];

        /** Takes a LAGOON that was read and gives the one that was here, to be read into the next time. */
        Lagoon begin(Lagoon fresh) {
            Lagoon old = lagoon;
            lagoon = fresh;
            town.settle(fresh);
            actCount = 0;
            return old;
        }

        void setActs(int many, int[] newHows, int[] newWhos) {
            actCount = Math.min(many, ACTS_MOST);
            for (int i = 0; i < actCount; i++) {
                hows[i] = newHows[i];
                whos[i] = newWhos[i];
            }
        }

        void copy(Scene other) {
            lagoon.copy(other.lagoon);
            town.follow(lagoon, other.town);
            setActs(other.actCount, other.hows, other.whos);
        }
    }

    /** A LAGOON as told by its text. */
    private static final class Lagoon {
        int columns;
        int rows;
        final int[] ground = new int[SIDE_MOST * SIDE_MOST];
        /** For each GROUND the CELLS that have this one or a lower one. */
        final long[] upTo = new long[10];
        final int[] tide = new int[HOURS];
        int raftCount;
        final int[] name = new int[RAFTS_MOST];
        final int[] wide = new int[RAFTS_MOST];
        final int[] high = new int[RAFTS_MOST];
        final int[] draft = new int[RAFTS_MOST];
        final int[] start = new int[RAFTS_MOST];
        int poleCount;
        final int[] poles = new int[POLES_MOST];
        long square;
        final Ropes ropes = new Ropes();
        final Wishes wishes = new Wishes();

        Lagoon() {
            Arrays.fill(tide, TIDE_UNTOLD);
        }

        void empty() {
            columns = 0;
            rows = 0;
            Arrays.fill(upTo, 0L);
            Arrays.fill(tide, TIDE_UNTOLD);
            raftCount = 0;
            poleCount = 0;
            square = 0;
            ropes.empty();
            wishes.wantCount = 0;
        }

        void copy(Lagoon other) {
            columns = other.columns;
            rows = other.rows;
            System.arraycopy(other.ground, 0, ground, 0, SIDE_MOST * SIDE_MOST);
            System.arraycopy(other.upTo, 0, upTo, 0, 10);
            System.arraycopy(other.tide, 0, tide, 0, HOURS);
            raftCount = other.raftCount;
            System.arraycopy(other.name, 0, name, 0, RAFTS_MOST);
            System.arraycopy(other.wide, 0, wide, 0, RAFTS_MOST);
            System.arraycopy(other.high, 0, high, 0, RAFTS_MOST);
            System.arraycopy(other.draft, 0, draft, 0, RAFTS_MOST);
            System.arraycopy(other.start, 0, start, 0, RAFTS_MOST);
            poleCount = other.poleCount;
            System.arraycopy(other.poles, 0, poles, 0, POLES_MOST);
            square = other.square;
            ropes.copy(other.ropes);
            wishes.copy(other.wishes);
        }

        /** A row from its DIGITS: the value, and how many of them there are. */
        void addRow(int value, int size) {
            if (rows >= SIDE_MOST || size > SIDE_MOST) {
                return;
            }
            columns = size;
            int rest = value;
            for (int x = size - 1; x >= 0; x--) {
                int deep = rest % 10;
                rest /= 10;
                int cell = 8 * rows + x;
                ground[cell] = deep;
                for (int g = deep; g < 10; g++) {
                    upTo[g] |= 1L << cell;
                }
            }
            rows++;
        }

        boolean hasCell(int x, int y) {
            return x >= 0 && x < columns && y >= 0 && y < rows;
        }

        /** Whether it is a LAGOON in which LEAST is looked for. */
        boolean isSmall() {
            return raftCount <= Berths.RAFTS && columns * rows <= Berths.CELLS;
        }

        int raftNamed(int word) {
            for (int r = 0; r < raftCount; r++) {
                if (name[r] == word) {
                    return r;
                }
            }
            return NONE;
        }

        int spotOf(int r, int cell, int turned) {
            return turned != 0 && wide[r] != high[r] ? cell + TURNED_BIT : cell;
        }

        int wideAt(int r, int spot) {
            return spot < TURNED_BIT ? wide[r] : high[r];
        }

        int highAt(int r, int spot) {
            return spot < TURNED_BIT ? high[r] : wide[r];
        }

        boolean holds(int r, int spot) {
            return (spot & 7) + wideAt(r, spot) <= columns && (spot >> 3 & 7) + highAt(r, spot) <= rows;
        }

        long coverAt(int r, int spot) {
            return blockOf(wideAt(r, spot), highAt(r, spot)) << (spot & CELL_BITS);
        }

        /** Whether a RAFT FLOATS on these CELLS in an hour. */
        boolean carries(int r, long cover, int hour) {
            if (draft[r] == 0) {
                return true;
            }
            int deepest = tide[hour] - draft[r];
            return deepest >= 0 && (cover & ~upTo[deepest]) == 0;
        }

        int hoursCarrying(int r, long cover) {
            int bits = 0;
            for (int hour = 0; hour < HOURS; hour++) {
                if (carries(r, cover, hour)) {
                    bits |= 1 << hour;
                }
            }
            return bits;
        }

        /** Whether two of these CELLS have GROUNDS more than 1 apart. */
        boolean isUneven(long cover) {
            for (int g = 0; g + 1 < 10; g++) {
                if ((cover & upTo[g]) != 0) {
                    return (cover & ~upTo[g + 1]) != 0;
                }
            }
            return false;
        }

        /** GAP of two RAFTS. */
        int between(int a, int spotOfA, int b, int spotOfB) {
            int xOfA = spotOfA & 7;
            int xOfB = spotOfB & 7;
            int yOfA = spotOfA >> 3 & 7;
            int yOfB = spotOfB >> 3 & 7;
            int across = Math.max(xOfB - xOfA - wideAt(a, spotOfA), xOfA - xOfB - wideAt(b, spotOfB));
            int along = Math.max(yOfB - yOfA - highAt(a, spotOfA), yOfA - yOfB - highAt(b, spotOfB));
            return Math.max(0, Math.max(across, along));
        }

        private int poleUnder(long cover) {
            for (int i = 0; i < poleCount; i++) {
                if ((cover >>> poles[i] & 1) != 0) {
                    return poles[i];
                }
            }
            return NONE;
        }

        /** Where a SLIDE or a TURN brings a RAFT that lies in a SPOT; below 0: less why it is WRONG (2, 3). */
        int landing(int r, int spot, int how) {
            int x = spot & 7;
            int y = spot >> 3 & 7;
            int turned = spot >> 6;
            if (how == TURN_HOW) {
                int pole = poleUnder(coverAt(r, spot));
                if (pole < 0) {
                    return -2;
                }
                // What lay dx to the east and dy to the south of the POLE lies -dy and dx from it then.
                int west = (pole & 7) + (pole >> 3) - (y + highAt(r, spot) - 1);
                y = (pole >> 3) + x - (pole & 7);
                x = west;
                turned = 1 - turned;
            } else {
                x += how == 1 ? 1 : how == 3 ? -1 : 0;
                y += how == 2 ? 1 : how == 0 ? -1 : 0;
            }
            if (!hasCell(x, y)) {
                return -3;
            }
            int there = spotOf(r, 8 * y + x, turned);
            return holds(r, there) ? there : -3;
        }

        /** Whether a RAFT is DRIVEN when the ropes of a set are cut. */
        boolean isDriven(int r, int force, int cutSet) {
            int group = ropes.hangingWith(r, cutSet);
            int cells = 0;
            int moored = 0;
            for (int i = 0; i < raftCount; i++) {
                if ((group >> i & 1) != 0) {
                    cells += wide[i] * high[i];
                    moored += ropes.moors[i];
                }
            }
            return force * cells > moored;
        }

        /** CUT as bits; NONE if no set of ropes will do. */
        int leastCut(int r, int force) {
            int best = NONE;
            int bestHolds = 0;
            for (int set = 0; set < 1 << ropes.ropeCount; set++) {
                int holds = ropes.holdsOf(set);
                boolean lesser = best < 0 || holds < bestHolds
                        || holds == bestHolds && Integer.bitCount(set) < Integer.bitCount(best);
                if (lesser && !isDriven(r, force, set)) {
                    best = set;
                    bestHolds = holds;
                }
            }
            return best;
        }
    }

    /** Ropes and moors. */
    private static final class Ropes {
        static final int FAR = 99;

        int ropeCount;
        final int[] ones = new int[ROPES_MOST];
        final int[] others = new int[ROPES_MOST];
        final int[] reaches = new int[ROPES_MOST];
        final int[] holds = new int[ROPES_MOST];
        final int[] moors = new int[RAFTS_MOST];

        void empty() {
            ropeCount = 0;
            Arrays.fill(moors, 0);
        }

        void copy(Ropes other) {
            ropeCount = other.ropeCount;
            System.arraycopy(other.ones, 0, ones, 0, ROPES_MOST);
            System.arraycopy(other.others, 0, others, 0, ROPES_MOST);
            System.arraycopy(other.reaches, 0, reaches, 0, ROPES_MOST);
            System.arraycopy(other.holds, 0, holds, 0, ROPES_MOST);
            System.arraycopy(other.moors, 0, moors, 0, RAFTS_MOST);
        }

        void add(int one, int other, int reach, int hold) {
            if (ropeCount < ROPES_MOST) {
                ones[ropeCount] = one;
                others[ropeCount] = other;
                reaches[ropeCount] = reach;
                holds[ropeCount] = hold;
                ropeCount++;
            }
        }

        /** The GAP that the rope between two RAFTS leaves them; FAR: there is no rope. */
        int reachOf(int a, int b) {
            for (int i = 0; i < ropeCount; i++) {
                if (ones[i] == a && others[i] == b || ones[i] == b && others[i] == a) {
                    return reaches[i];
                }
            }
            return FAR;
        }

        int holdsOf(int set) {
            int sum = 0;
            for (int i = 0; i < ropeCount; i++) {
                if ((set >> i & 1) != 0) {
                    sum += holds[i];
                }
            }
            return sum;
        }

        /** The RAFTS that hang together with one, itself too, when the ropes of a set are cut. */
        int hangingWith(int r, int cutSet) {
            int group = 1 << r;
            for (int pass = 0; pass < ropeCount; pass++) {
                int before = group;
                for (int i = 0; i < ropeCount; i++) {
                    int pair = 1 << ones[i] | 1 << others[i];
                    if ((cutSet >> i & 1) == 0 && (group & pair) != 0) {
                        group |= pair;
                    }
                }
                if (group == before) {
                    break;
                }
            }
            return group;
        }
    }

    /** WANTS. */
    private static final class Wishes {
        static final int BESIDE = 0;
        static final int APART = 1;
        static final int SUN = 2;
        static final int LIES = 3;

        int wantCount;
        final int[] kinds = new int[WANTS_MOST];
        final int[] whos = new int[WANTS_MOST];
        /** The other RAFT, the SIDE or the CELL. */
        final int[] whats = new int[WANTS_MOST];
        final int[] worths = new int[WANTS_MOST];

        void copy(Wishes other) {
            wantCount = other.wantCount;
            System.arraycopy(other.kinds, 0, kinds, 0, WANTS_MOST);
            System.arraycopy(other.whos, 0, whos, 0, WANTS_MOST);
            System.arraycopy(other.whats, 0, whats, 0, WANTS_MOST);
            System.arraycopy(other.worths, 0, worths, 0, WANTS_MOST);
        }

        void add(int kind, int who, int what, int worth) {
            if (wantCount < WANTS_MOST) {
                kinds[wantCount] = kind;
                whos[wantCount] = who;
                whats[wantCount] = what;
                worths[wantCount] = worth;
                wantCount++;
            }
        }

        int worthOf(int bits) {
            int sum = 0;
            for (int i = 0; i < wantCount; i++) {
                if ((bits >> i & 1) != 0) {
                    sum += worths[i];
                }
            }
            return sum;
        }

        /** WANTS of one of two RAFTS, and of no third one, as bits. */
        int bitsWithin(int a, int b) {
            int bits = 0;
            for (int i = 0; i < wantCount; i++) {
                boolean ofTwo = kinds[i] == SUN || kinds[i] == LIES || whats[i] == a || whats[i] == b;
                if (ofTwo && (whos[i] == a || whos[i] == b)) {
                    bits |= 1 << i;
                }
            }
            return bits;
        }

        /** Puts W together for each set of WANTS, as bits, into a row of numbers. */
        void sumUp(int[] sums) {
            sums[0] = 0;
            for (int i = 0; i < wantCount; i++) {
                int half = 1 << i;
                for (int set = half; set < 2 * half && set < sums.length; set++) {
                    sums[set] = sums[set - half] + worths[i];
                }
            }
        }

        /** WANTS that are so, as bits, the RAFTS lying on these CELLS, and together on covered ones. */
        int soBits(long[] covers, long covered) {
            int bits = 0;
            for (int i = 0; i < wantCount; i++) {
                if (isSo(i, covers, covered)) {
                    bits |= 1 << i;
                }
            }
            return bits;
        }

        private boolean isSo(int i, long[] covers, long covered) {
            long own = covers[whos[i]];
            switch (kinds[i]) {
                case BESIDE: return (around(own) & covers[whats[i]]) != 0;
                case APART: return (around(own) & covers[whats[i]]) == 0;
                case SUN: return (shifted(own, whats[i]) & ~own & covered) == 0;
                default: return (own >>> whats[i] & 1) != 0;
            }
        }

        private static long around(long cells) {
            return cells >>> 8 | cells << 8 | (cells & ~EAST_COLUMN) << 1 | (cells & ~WEST_COLUMN) >>> 1;
        }

        private static long shifted(long cells, int side) {
            switch (side) {
                case 0: return cells >>> 8;
                case 1: return (cells & ~EAST_COLUMN) << 1;
                case 2: return cells << 8;
                default: return (cells & ~WEST_COLUMN) >>> 1;
            }
        }
    }

    /** A TOWN: the SPOT of each RAFT, and the CELLS that it covers there. */
    private static final class Town {
        private Lagoon lagoon;
        final int[] spots = new int[RAFTS_MOST];
        final long[] covers = new long[RAFTS_MOST];

        Town(Lagoon first) {
            lagoon = first;
        }

        void settle(Lagoon fresh) {
            lagoon = fresh;
            for (int r = 0; r < fresh.raftCount; r++) {
                put(r, fresh.start[r]);
            }
        }

        void follow(Lagoon same, Town other) {
            lagoon = same;
            System.arraycopy(other.spots, 0, spots, 0, RAFTS_MOST);
            System.arraycopy(other.covers, 0, covers, 0, RAFTS_MOST);
        }

        void put(int r, int spot) {
            spots[r] = spot;
            covers[r] = lagoon.coverAt(r, spot);
        }

        /** Lies as bytes tell; false, if they are not as told for lay(). */
        boolean readBytes(Lagoon same, byte[] bytes, int length) {
            lagoon = same;
            if (length != 3 * same.raftCount || length > bytes.length) {
                return false;
            }
            for (int r = 0; r < same.raftCount; r++) {
                int x = bytes[3 * r];
                int y = bytes[3 * r + 1];
                int turned = bytes[3 * r + 2];
                if (!same.hasCell(x, y) || turned < 0 || turned > 1) {
                    return false;
                }
                put(r, same.spotOf(r, 8 * y + x, turned));
            }
            return isSound();
        }

        /** Whether all lie in the LAGOON and none on another one. */
        boolean isSound() {
            long covered = 0;
            for (int r = 0; r < lagoon.raftCount; r++) {
                if (!lagoon.holds(r, spots[r]) || (covers[r] & covered) != 0) {
                    return false;
                }
                covered |= covers[r];
            }
            return true;
        }

        long coveredBut(int one) {
            long covered = 0;
            for (int r = 0; r < lagoon.raftCount; r++) {
                if (r != one) {
                    covered |= covers[r];
                }
            }
            return covered;
        }

        boolean ropesReach(int r, int spot) {
            Ropes ropes = lagoon.ropes;
            for (int i = 0; i < ropes.ropeCount; i++) {
                if (ropes.ones[i] == r || ropes.others[i] == r) {
                    int other = ropes.ones[i] + ropes.others[i] - r;
                    if (lagoon.between(r, spot, other, spots[other]) > ropes.reaches[i]) {
                        return false;
                    }
                }
            }
            return true;
        }

        /** Where a SLIDE or a TURN would bring a RAFT; below 0: less why it is WRONG. */
        int attempt(int r, int how, int hour) {
            if (!lagoon.carries(r, covers[r], hour)) {
                return -1;
            }
            int spot = lagoon.landing(r, spots[r], how);
            if (spot < 0) {
                return spot;
            }
            long there = lagoon.coverAt(r, spot);
            if ((there & coveredBut(r)) != 0) {
                return -4;
            }
            if (!lagoon.carries(r, there, hour)) {
                return -5;
            }
            return ropesReach(r, spot) ? spot : -6;
        }

        int metBits() {
            return lagoon.wishes.soBits(covers, coveredBut(NONE));
        }

        int met() {
            return lagoon.wishes.worthOf(metBits());
        }

        boolean isSquareTaken() {
            return (coveredBut(NONE) & lagoon.square) != 0;
        }
    }

    /** A PLAN being done, ACT by ACT. */
    private static final class Trial {
        final Town town;
        private int began;
        int elapsed;
        int why;
        int busy;
        int firstBusy;

        Trial(Lagoon first) {
            town = new Town(first);
        }

        void begin(Lagoon lagoon, Town from, int quarter) {
            town.follow(lagoon, from);
            began = quarter;
            elapsed = 0;
            why = 0;
            busy = 0;
            firstBusy = NONE;
        }

        void follow(Trial other) {
            town.follow(other.town.lagoon, other.town);
            began = other.began;
            elapsed = other.elapsed;
            why = other.why;
            busy = other.busy;
            firstBusy = other.firstBusy;
        }

        /** Does the ACTS from one on: the first that is WRONG; NONE: none. */
        int runFrom(Scene scene, int first) {
            for (int i = first; i < scene.actCount; i++) {
                if (!step(scene.hows[i], scene.whos[i])) {
                    return i;
                }
            }
            return NONE;
        }

        boolean step(int how, int who) {
            if (how == WAIT_HOW) {
                pass(who);
                return true;
            }
            int spot = town.attempt(who, how, (began + elapsed) / 4 % HOURS);
            if (spot < 0) {
                why = -spot;
                return false;
            }
            pass(1);
            town.put(who, spot);
            return true;
        }

        private void pass(int quarters) {
            boolean taken = town.isSquareTaken();
            for (int i = 0; i < quarters; i++) {
                if (taken && (began + elapsed) / 4 % HOURS == NOON) {
                    if (busy == 0) {
                        firstBusy = elapsed;
                    }
                    busy++;
                }
                elapsed++;
            }
        }
    }

    /**
     * For at most three RAFTS: each SPOT that a RAFT can have in the LAGOON, numbered by 'not turned, then the
     * lesser Y, then X'; where each SLIDE and TURN leads from there; and which SPOTS of two go together.
     */
    private static final class Berths {
        static final int RAFTS = 3;
        static final int CELLS = 25;
        /** A RAFT of 1 by 2 has the most of them, in 5 by 5 CELLS. */
        static final int MOST = 40;

        private Lagoon lagoon;
        final int[] counts = new int[RAFTS];
        final int[] spots = new int[RAFTS * MOST];
        private final long[] covers = new long[RAFTS * MOST];
        private final int[] numbers = new int[RAFTS * SPOTS];
        final int[] onward = new int[RAFTS * MOST * HOWS];
        private final long[] together = new long[RAFTS * RAFTS * MOST];
        /** Of RAFTS 0 and 1, 0 and 2, 1 and 2, number by number: the WANTS that are not so as these two lie. */
        private final int[] notSo = new int[RAFTS * MOST * MOST];
        private final long[] pairCovers = new long[RAFTS_MOST];

        Berths(Lagoon first) {
            lagoon = first;
        }

        void list(Lagoon now) {
            lagoon = now;
            for (int r = 0; r < RAFTS; r++) {
                counts[r] = 0;
                if (r < now.raftCount) {
                    listOf(r);
                } else {
                    // A RAFT that is not there has one SPOT and covers nothing.
                    counts[r] = 1;
                    covers[r * MOST] = 0;
                }
            }
            match();
        }

        private void listOf(int r) {
            int last = lagoon.wide[r] == lagoon.high[r] ? TURNED_BIT : SPOTS;
            for (int spot = 0; spot < last; spot++) {
                if (lagoon.holds(r, spot) && counts[r] < MOST) {
                    int number = r * MOST + counts[r];
                    spots[number] = spot;
                    covers[number] = lagoon.coverAt(r, spot);
                    numbers[r * SPOTS + spot] = counts[r];
                    counts[r]++;
                }
            }
        }

        private void match() {
            Arrays.fill(together, 0L);
            for (int a = 0; a < RAFTS; a++) {
                for (int b = a + 1; b < RAFTS; b++) {
                    matchTwo(a, b);
                }
            }
        }

        private void matchTwo(int a, int b) {
            int reach = lagoon.ropes.reachOf(a, b);
            for (int p = 0; p < counts[a]; p++) {
                for (int q = 0; q < counts[b]; q++) {
                    int i = a * MOST + p;
                    int j = b * MOST + q;
                    if ((covers[i] & covers[j]) == 0
                            && (reach == Ropes.FAR || lagoon.between(a, spots[i], b, spots[j]) <= reach)) {
                        together[(a * RAFTS + b) * MOST + p] |= 1L << q;
                        together[(b * RAFTS + a) * MOST + q] |= 1L << p;
                    }
                }
            }
        }

        void weigh() {
            for (int a = 0; a < RAFTS; a++) {
                for (int b = a + 1; b < RAFTS; b++) {
                    weighTwo(a, b);
                }
            }
        }

        private void weighTwo(int a, int b) {
            int within = lagoon.wishes.bitsWithin(a, b);
            Arrays.fill(pairCovers, 0L);
            for (int p = 0; p < counts[a]; p++) {
                pairCovers[a] = covers[a * MOST + p];
                for (int q = 0; q < counts[b]; q++) {
                    pairCovers[b] = covers[b * MOST + q];
                    int so = lagoon.wishes.soBits(pairCovers, pairCovers[a] | pairCovers[b]);
                    notSo[((a + b - 1) * MOST + p) * MOST + q] = within & ~so;
                }
            }
        }

        /** WANTS that are not so as RAFTS 0 and 1 lie in a state, the third one wherever it may. */
        int notSoByTwo(int state) {
            return notSo[numberIn(state, 0) * MOST + numberIn(state, 1)];
        }

        /** WANTS that are not so: each is so if it is for each two of the RAFTS. */
        int notSoIn(int state) {
            int last = numberIn(state, 2);
            return notSoByTwo(state) | notSo[(MOST + numberIn(state, 0)) * MOST + last]
                    | notSo[(2 * MOST + numberIn(state, 1)) * MOST + last];
        }

        void link(int hour) {
            for (int r = 0; r < lagoon.raftCount && r < RAFTS; r++) {
                for (int p = 0; p < counts[r]; p++) {
                    for (int how = 0; how < HOWS; how++) {
                        onward[(r * MOST + p) * HOWS + how] = onwardFrom(r, p, how, hour);
                    }
                }
            }
        }

        private int onwardFrom(int r, int p, int how, int hour) {
            int number = r * MOST + p;
            if (!lagoon.carries(r, covers[number], hour)) {
                return NONE;
            }
            int spot = lagoon.landing(r, spots[number], how);
            if (spot < 0 || !lagoon.carries(r, lagoon.coverAt(r, spot), hour)) {
                return NONE;
            }
            return numbers[r * SPOTS + spot];
        }

        /** The numbers of the SPOTS of a TOWN, six bits each, those of RAFT 0 the highest. */
        int stateOf(Town town) {
            int state = 0;
            for (int r = 0; r < RAFTS; r++) {
                int number = r < lagoon.raftCount ? numbers[r * SPOTS + town.spots[r]] : 0;
                state = state << 6 | number;
            }
            return state;
        }

        static int numberIn(int state, int r) {
            return state >> 6 * (RAFTS - 1 - r) & 63;
        }

        static int withNumber(int state, int r, int number) {
            int shift = 6 * (RAFTS - 1 - r);
            return state & ~(63 << shift) | number << shift;
        }

        /** The numbers of RAFT r that go together with each other one up to the last as they lie in a state. */
        long roomFor(int r, int state, int last) {
            long room = -1L;
            for (int other = 0; other <= last && other < RAFTS; other++) {
                if (other != r) {
                    room &= together[(other * RAFTS + r) * MOST + numberIn(state, other)];
                }
            }
            return room;
        }
    }

    /**
     * LEAST, ALONE, BEST and ALL WANTS. TOWNS come into the queue by the fewest ACTS and, of like ones, by the
     * first row of ACTS, as each is gone on from in its turn and by the lesser ACT first.
     */
    private static final class Search {
        private static final int STATES_MOST = Berths.MOST * Berths.MOST * Berths.MOST;
        private static final int STATE_BITS = 18;
        private static final int ACT_BITS = 6;
        private static final int NO_GOAL = -1;

        private final Berths berths;
        private final long[] seen = new long[Berths.MOST * Berths.MOST];
        /** Of each state: itself, the ACT that led to it, the place of the state it came from. */
        private long[] queue = new long[256];
        private int tail;
        private int goal;
        private int goalAt;
        private final Town walker;
        /** W together of each set of WANTS. */
        private final int[] sums = new int[1 << WANTS_MOST];
        int[] acts = new int[64];
        int actCount;
        final int[] allSpots = new int[Berths.RAFTS];
        private int allMost;
        private int allState;
        int allRafts;
        int allLeft = NONE;

        Search(Lagoon first) {
            berths = new Berths(first);
            walker = new Town(first);
        }

        private void begin(int start, int seekedGoal) {
            Arrays.fill(seen, 0L);
            tail = 0;
            goal = seekedGoal;
            goalAt = NONE;
            push(start, 0, 0);
        }

        private void push(int state, int act, int from) {
            if (tail >= STATES_MOST) {
                return;
            }
            if (tail >= queue.length) {
                queue = Arrays.copyOf(queue, 2 * queue.length);
            }
            queue[tail] = (long) from << STATE_BITS + ACT_BITS | (long) act << STATE_BITS | state;
            if (state == goal) {
                goalAt = tail;
            }
            tail++;
        }

        private int stateAt(int place) {
            return (int) queue[place] & (1 << STATE_BITS) - 1;
        }

        private int actAt(int place) {
            return (int) (queue[place] >> STATE_BITS) & (1 << ACT_BITS) - 1;
        }

        private int fromAt(int place) {
            return (int) (queue[place] >> STATE_BITS + ACT_BITS);
        }

        /** Marks a state as seen; false, if it was. */
        private boolean isNew(int state) {
            int row = (state >> 12) * Berths.MOST + (state >> 6 & 63);
            long bit = 1L << (state & 63);
            if (row >= seen.length || (seen[row] & bit) != 0) {
                return false;
            }
            seen[row] |= bit;
            return true;
        }

        /** Keeps the ACTS that led to a place in the queue: how many. */
        private int trace(int place) {
            int many = 0;
            for (int at = place; at > 0 && many < STATES_MOST; at = fromAt(at)) {
                many++;
            }
            if (many > acts.length) {
                acts = new int[2 * many];
            }
            actCount = many;
            int at = place;
            for (int i = many - 1; i >= 0; i--) {
                int act = actAt(at);
                acts[i] = act / HOWS * 10 + act % HOWS;
                at = fromAt(at);
            }
            return many;
        }

        int leastActs(Lagoon lagoon, Town from, Town to, int hour) {
            berths.list(lagoon);
            berths.link(hour);
            int start = berths.stateOf(from);
            begin(start, berths.stateOf(to));
            isNew(start);
            for (int head = 0; head < tail && head < STATES_MOST && goalAt < 0; head++) {
                goOnFrom(head, lagoon.raftCount);
            }
            return goalAt < 0 ? NONE : trace(goalAt);
        }

        private void goOnFrom(int head, int rafts) {
            int state = stateAt(head);
            for (int r = 0; r < rafts && r < Berths.RAFTS; r++) {
                int first = (r * Berths.MOST + Berths.numberIn(state, r)) * HOWS;
                long room = berths.roomFor(r, state, Berths.RAFTS - 1);
                for (int how = 0; how < HOWS; how++) {
                    int p = berths.onward[first + how];
                    if (p >= 0 && (room >>> p & 1) != 0) {
                        int next = Berths.withNumber(state, r, p);
                        if (isNew(next)) {
                            push(next, r * HOWS + how, head);
                        }
                    }
                }
            }
        }

        int mostMet(Lagoon lagoon, Town from, int steps, int hour) {
            berths.list(lagoon);
            berths.link(hour);
            int start = berths.stateOf(from);
            begin(start, NO_GOAL);
            isNew(start);
            berths.weigh();
            lagoon.wishes.sumUp(sums);
            int every = (1 << lagoon.wishes.wantCount) - 1;
            int best = NONE;
            int bestAt = 0;
            int done = 0;
            int lastOfDone = 1;
            for (int head = 0; head < tail && head < STATES_MOST && best < sums[every]; head++) {
                if (head == lastOfDone) {
                    done++;
                    lastOfDone = tail;
                }
                int met = sums[every & ~berths.notSoIn(stateAt(head))];
                if (met > best) {
                    best = met;
                    bestAt = head;
                }
                if (done < steps) {
                    goOnFrom(head, lagoon.raftCount);
                }
            }
            trace(bestAt);
            return best;
        }

        int leastAlone(Lagoon lagoon, Town from, int r, int spot, int hour) {
            walker.follow(lagoon, from);
            begin(from.spots[r], spot);
            isNewSpot(from.spots[r]);
            for (int head = 0; head < tail && head < SPOTS && goalAt < 0; head++) {
                walker.put(r, stateAt(head));
                for (int how = 0; how < HOWS; how++) {
                    int next = walker.attempt(r, how, hour);
                    if (next >= 0 && isNewSpot(next)) {
                        push(next, r * HOWS + how, head);
                    }
                }
            }
            return goalAt < 0 ? NONE : trace(goalAt);
        }

        private boolean isNewSpot(int spot) {
            long bit = 1L << (spot & CELL_BITS);
            int row = spot >> 6;
            if ((seen[row] & bit) != 0) {
                return false;
            }
            seen[row] |= bit;
            return true;
        }

        int mostMetAnywhere(Lagoon lagoon) {
            berths.list(lagoon);
            berths.weigh();
            lagoon.wishes.sumUp(sums);
            int every = (1 << lagoon.wishes.wantCount) - 1;
            allMost = NONE;
            allState = 0;
            for (int p = 0; p < berths.counts[0]; p++) {
                long room = berths.roomFor(1, p << 12, 0);
                for (int q = 0; q < berths.counts[1]; q++) {
                    int pair = p << 12 | q << 6;
                    if ((room >>> q & 1) != 0 && sums[every & ~berths.notSoByTwo(pair)] > allMost) {
                        tryLast(pair, every);
                    }
                }
            }
            allRafts = Math.min(lagoon.raftCount, Berths.RAFTS);
            for (int r = 0; r < allRafts; r++) {
                allSpots[r] = berths.spots[r * Berths.MOST + Berths.numberIn(allState, r)];
            }
            allLeft = berths.notSoIn(allState);
            return allMost;
        }

        private void tryLast(int pair, int every) {
            long room = berths.roomFor(2, pair, 1);
            for (int last = 0; last < berths.counts[2]; last++) {
                if ((room >>> last & 1) != 0) {
                    int met = sums[every & ~berths.notSoIn(pair | last)];
                    if (met > allMost) {
                        allMost = met;
                        allState = pair | last;
                    }
                }
            }
        }
    }

    /** TOKENS of a text, and its first FAULT: once there is one, nothing more is read. */
    private abstract static class Text {
        static final int ROW = 0;
        static final int TIDE = 1;
        static final int RAFT = 2;
        static final int POLE = 3;
        static final int ROPE = 4;
        static final int MOOR = 5;
        static final int BESIDE = 6;
        static final int APART = 7;
        static final int SUN = 8;
        static final int LIES = 9;
        static final int SQUARE = 10;
        static final int NORTH = 11;
        static final int WEST = 14;
        static final int SLIDE = 15;
        static final int TURN = 16;
        static final int WAIT = 17;
        private static final String WORDS =
                "row tide raft pole rope moor beside apart sun lies square north east south west slide turn wait ";
        private static final int WORD_COUNT = 18;

        static final int NO_TOKEN = 0;
        static final int WORD = 1;
        static final int NUMBER = 2;
        static final int STOP = 3;
        static final int END = 4;

        private final int[] words = new int[WORD_COUNT];
        private byte[] bytes = new byte[0];
        private int length;
        private int limit;
        private int place;
        private int start;
        int kind;
        /** Of a NUMBER its value, of a WORD its letters, five bits each. */
        int value;
        int size;
        /** Which of the WORDS it is; NONE: a NAME, or no WORD. */
        int known;
        int fault;
        int faultAt;

        Text() {
            int word = 0;
            int letters = 0;
            for (int i = 0; i < WORDS.length() && word < WORD_COUNT; i++) {
                if (WORDS.charAt(i) == ' ') {
                    words[word] = letters;
                    word++;
                    letters = 0;
                } else {
                    letters = letters << 5 | WORDS.charAt(i) - 'a' + 1;
                }
            }
        }

        final void begin(byte[] text, int many, int most) {
            bytes = text;
            length = Math.min(many, text.length);
            limit = most;
            place = 0;
            start = 0;
            fault = 0;
            faultAt = 0;
        }

        final void fail(int why) {
            if (fault == 0) {
                fault = why;
                faultAt = start;
            }
        }

        final void advance() {
            if (fault != 0) {
                return;
            }
            known = NONE;
            size = 0;
            int last = Math.min(length, limit);
            while (place < last && (bytes[place] == 32 || bytes[place] == 10)) {
                place++;
            }
            if (place >= last) {
                start = last;
                kind = END;
            } else if (bytes[place] == ';') {
                start = place;
                kind = STOP;
                place++;
            } else {
                start = place;
                readRun();
                if (kind == WORD) {
                    known = wordOf(value);
                }
            }
        }

        /** All small letters and digits from here on; one kind of them, and not too many, are a TOKEN. */
        private void readRun() {
            int letters = 0;
            int digits = 0;
            value = 0;
            while (place < length) {
                int sign = bytes[place];
                if (sign >= 'a' && sign <= 'z') {
                    letters++;
                    value = value << 5 | sign - 'a' + 1;
                } else if (sign >= '0' && sign <= '9') {
                    digits++;
                    value = value * 10 + sign - '0';
                } else {
                    break;
                }
                place++;
            }
            size = letters + digits;
            kind = NO_TOKEN;
            if (digits == 0 && letters >= 1 && letters <= 6) {
                kind = WORD;
            } else if (letters == 0 && digits >= 1 && digits <= 8) {
                kind = NUMBER;
            }
        }

        private int wordOf(int letters) {
            for (int i = 0; i < WORD_COUNT; i++) {
                if (words[i] == letters) {
                    return i;
                }
            }
            return NONE;
        }

        /** Whether another LINE or ACT begins; a text that is too long has its FAULT at the end of what is read. */
        final boolean goesOn() {
            advance();
            if (fault == 0 && kind == END && length > limit) {
                fail(1);
            }
            return fault == 0 && kind != END;
        }

        final int readNumber(int low, int high) {
            advance();
            if (kind != NUMBER) {
                fail(1);
            } else if (value < low || value > high) {
                fail(2);
            }
            return fault == 0 ? value : low;
        }

        final int readName() {
            advance();
            if (kind != WORD || known >= 0) {
                fail(1);
            }
            return value;
        }

        final int readRaft(Lagoon lagoon) {
            int r = lagoon.raftNamed(readName());
            if (r < 0) {
                fail(3);
            }
            return fault == 0 ? r : 0;
        }

        /** 0 north to 3 west. */
        final int readSide() {
            advance();
            if (known < NORTH || known > WEST) {
                fail(1);
            }
            return fault == 0 ? known - NORTH : 0;
        }

        final void readStop() {
            advance();
            if (kind != STOP) {
                fail(1);
            }
        }
    }

    /** The text of a LAGOON, read into a fresh one. */
    private static final class LagoonText extends Text {
        Lagoon fresh = new Lagoon();
        private int tidesTold;

        int readLines(byte[] text, int many) {
            begin(text, many, LAGOON_MOST);
            fresh.empty();
            tidesTold = 0;
            int lines = 0;
            while (lines < LAGOON_MOST && goesOn()) {
                switch (known) {
                    case ROW: readRow(); break;
                    case TIDE: readTide(); break;
                    case RAFT: readNewRaft(); break;
                    case POLE: readPole(); break;
                    case ROPE: readRope(); break;
                    case MOOR: readMoor(); break;
                    case BESIDE: readPairWant(Wishes.BESIDE); break;
                    case APART: readPairWant(Wishes.APART); break;
                    case SUN: readSun(); break;
                    case LIES: readLies(); break;
                    case SQUARE: readSquare(); break;
                    default: fail(1);
                }
                readStop();
                lines++;
            }
            return lines;
        }

        private void readRow() {
            if (fresh.rows >= SIDE_MOST) {
                fail(4);
            }
            advance();
            if (kind != NUMBER) {
                fail(1);
            } else if (fresh.rows > 0 && size != fresh.columns) {
                fail(2);
            }
            if (fault == 0) {
                fresh.addRow(value, size);
            }
        }

        private void readTide() {
            int hour = readNumber(0, HOURS - 1);
            if ((tidesTold >> hour & 1) != 0) {
                fail(3);
            }
            int level = readNumber(0, 9);
            if (fault == 0) {
                tidesTold |= 1 << hour;
                fresh.tide[hour] = level;
            }
        }

        private int readCell() {
            int x = readNumber(0, fresh.columns - 1);
            int y = readNumber(0, fresh.rows - 1);
            return fault == 0 ? 8 * y + x : 0;
        }

        private void readNewRaft() {
            int r = fresh.raftCount;
            if (r >= RAFTS_MOST) {
                fail(4);
                return;
            }
            fresh.name[r] = readName();
            if (fresh.raftNamed(fresh.name[r]) >= 0) {
                fail(3);
            }
            fresh.wide[r] = readNumber(1, 3);
            fresh.high[r] = readNumber(1, 3);
            fresh.draft[r] = readNumber(0, 9);
            fresh.start[r] = readCell();
            if (!fresh.holds(r, fresh.start[r])) {
                fail(2);
            }
            if (isOnAnother(r)) {
                fail(3);
            }
            fresh.raftCount++;
        }

        private boolean isOnAnother(int r) {
            long there = fresh.coverAt(r, fresh.start[r]);
            for (int i = 0; i < r; i++) {
                if ((there & fresh.coverAt(i, fresh.start[i])) != 0) {
                    return true;
                }
            }
            return false;
        }

        private void readPole() {
            if (fresh.poleCount >= POLES_MOST) {
                fail(4);
                return;
            }
            int cell = readCell();
            for (int i = 0; i < fresh.poleCount; i++) {
                if (fresh.poles[i] == cell) {
                    fail(3);
                }
            }
            fresh.poles[fresh.poleCount] = cell;
            fresh.poleCount++;
        }

        private void readRope() {
            if (fresh.ropes.ropeCount >= ROPES_MOST) {
                fail(4);
            }
            int a = readRaft(fresh);
            int b = readRaft(fresh);
            if (a == b || fresh.ropes.reachOf(a, b) != Ropes.FAR) {
                fail(3);
            }
            int reach = readNumber(0, 9);
            if (reach < fresh.between(a, fresh.start[a], b, fresh.start[b])) {
                fail(2);
            }
            int hold = readNumber(1, 99);
            if (fault == 0) {
                fresh.ropes.add(a, b, reach, hold);
            }
        }

        private void readMoor() {
            int r = readRaft(fresh);
            if (fresh.ropes.moors[r] != 0) {
                fail(3);
            }
            int hold = readNumber(1, 99);
            if (fault == 0) {
                fresh.ropes.moors[r] = hold;
            }
        }

        private void countWant() {
            if (fresh.wishes.wantCount >= WANTS_MOST) {
                fail(4);
            }
        }

        private void addWant(int wish, int who, int what, int worth) {
            if (fault == 0) {
                fresh.wishes.add(wish, who, what, worth);
            }
        }

        private void readPairWant(int wish) {
            countWant();
            int a = readRaft(fresh);
            int b = readRaft(fresh);
            if (a == b) {
                fail(3);
            }
            addWant(wish, a, b, readNumber(1, 99));
        }

        private void readSun() {
            countWant();
            int r = readRaft(fresh);
            addWant(Wishes.SUN, r, readSide(), readNumber(1, 99));
        }

        private void readLies() {
            countWant();
            int r = readRaft(fresh);
            addWant(Wishes.LIES, r, readCell(), readNumber(1, 99));
        }

        private void readSquare() {
            if (fresh.square != 0) {
                fail(3);
            }
            int cell = readCell();
            int wide = readNumber(1, SIDE_MOST);
            int high = readNumber(1, SIDE_MOST);
            if ((cell & 7) + wide > fresh.columns || (cell >> 3) + high > fresh.rows) {
                fail(2);
            }
            if (fault == 0) {
                fresh.square = blockOf(wide, high) << cell;
            }
        }
    }

    /** The text of a PLAN. */
    private static final class PlanText extends Text {
        private int actCount;
        final int[] hows = new int[ACTS_MOST];
        final int[] whos = new int[ACTS_MOST];

        int readActs(Lagoon lagoon, byte[] text, int many) {
            begin(text, many, PLAN_MOST);
            actCount = 0;
            for (int i = 0; i <= ACTS_MOST && goesOn(); i++) {
                readAct(lagoon);
                readStop();
            }
            return actCount;
        }

        private void readAct(Lagoon lagoon) {
            if (known != SLIDE && known != TURN && known != WAIT) {
                fail(1);
            }
            if (actCount >= ACTS_MOST) {
                fail(4);
                return;
            }
            int word = known;
            int who = word == WAIT ? readNumber(1, QUARTERS) : readRaft(lagoon);
            whos[actCount] = who;
            hows[actCount] = word == SLIDE ? readSide() : word == TURN ? TURN_HOW : WAIT_HOW;
            actCount++;
        }
    }
}

import java.util.ArrayList;
import java.util.LinkedHashMap;
import java.util.List;
import java.util.Map;
import java.util.NoSuchElementException;

/**
 * Keeps which sentence of the document is being tested, and what was wrong. Each sentence is quoted as it stands in
 * DOC.md, below the heading of its section, so that EdgesTest can tell which ones have no test.
 */
final class Edges {
    static final int NONE = RaftTown.NONE;
    static final int EVERY_HOUR = (1 << 24) - 1;

    final Map<String, List<String>> quotes = new LinkedHashMap<>();
    int checks;
    int wrong;
    private String section = "";
    private String quote = "";
    private int checksBefore;

    void section(String heading) {
        endSentence();
        section = heading;
        quote = "";
    }

    void sentence(String words) {
        endSentence();
        quote = words;
        checksBefore = checks;
        quotes.computeIfAbsent(section, s -> new ArrayList<>()).add(words);
    }

    void endSentence() {
        if (!quote.isEmpty() && checks == checksBefore) tell("has no check");
    }

    private void tell(String what) {
        wrong++;
        System.out.println(section + ", '" + quote + "': " + what);
    }

    void is(String call, long got, long due) {
        checks++;
        if (got != due) tell(call + " answered " + got + ", due is " + due);
    }

    void is(String call, boolean got, boolean due) { is(call, got ? 1 : 0, due ? 1 : 0); }

    // ---- LAGOONS

    RaftTown town(String text) {
        RaftTown t = new RaftTown();
        tellLagoon(t, text);
        return t;
    }

    /** A LAGOON that a test only needs: a FAULT in it is the test's own. */
    void tellLagoon(RaftTown t, String text) {
        Tape.text(t, text);
        int lines = t.lagoon();
        if (lines < 0) tell("a test's own LAGOON has a FAULT " + t.fault() + " at " + (-1 - lines) + ": " + text);
    }

    RaftTown sound(String text, int lines) {
        RaftTown t = new RaftTown();
        Tape.text(t, text);
        is("lagoon() of " + text, t.lagoon(), lines);
        is("fault() of " + text, t.fault(), 0);
        return t;
    }

    /** The LAGOON's text has a FAULT of a kind where the sign '@' stands, which is left out. */
    void faulty(String marked, int kind) {
        RaftTown t = new RaftTown();
        Tape.text(t, marked.replace("@", ""));
        is("lagoon() of " + marked, t.lagoon(), -1 - marked.indexOf('@'));
        is("fault() of " + marked, t.fault(), kind);
    }

    // ---- PLANS

    void plan(RaftTown t, String text, int acts) {
        Tape.text(t, text);
        is("plan() of " + text, t.plan(), acts);
    }

    void planFaulty(RaftTown t, String marked, int kind) {
        plan(t, marked.replace("@", ""), -1 - marked.indexOf('@'));
        is("fault() of " + marked, t.fault(), kind);
    }

    // ---- TOWNS

    void lay(RaftTown t, int... numbers) {
        Tape.town(t, numbers);
        is("lay()", t.lay(), true);
    }

    void lies(RaftTown t, int r, int x, int y, int turned) {
        is("raft(" + r + ", 0)", t.raft(r, 0), x);
        is("raft(" + r + ", 1)", t.raft(r, 1), y);
        is("raft(" + r + ", 5)", t.raft(r, 5), turned);
    }

    void found(RaftTown t, int... acts) {
        for (int i = 0; i < acts.length; i++) is("found(" + i + ")", t.found(i), acts[i]);
        is("found(" + acts.length + ")", t.found(acts.length), NONE);
    }

    void noRaft(RaftTown t, int r, int what) {
        boolean thrown = false;
        try { t.raft(r, what); } catch (NoSuchElementException e) { thrown = true; }
        is("raft(" + r + ", " + what + ") throws", thrown, true);
    }

    void noAct(RaftTown t, int i, int what) {
        boolean thrown = false;
        try { t.act(i, what); } catch (NoSuchElementException e) { thrown = true; }
        is("act(" + i + ", " + what + ") throws", thrown, true);
    }
}

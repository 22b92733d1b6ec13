import java.io.IOException;
import java.nio.charset.StandardCharsets;
import java.nio.file.Files;
import java.nio.file.Path;
import java.util.List;
import java.util.Map;
import java.util.TreeMap;

/**
 * The document sentence by sentence: each has a test of its own for its boundary cases. At the end the quotes are held
 * against DOC.md, so that a sentence that nobody tests is told.
 */
public final class EdgesTest {
    private static final Path DOC = Path.of("../shared/DOC.md");

    public static void main(String[] args) throws IOException {
        Edges e = new Edges();
        new TextEdges(e).run();
        new TownEdges(e).run();
        new PlanEdges(e).run();
        new SearchEdges(e).run();
        new KeepEdges(e).run();
        e.endSentence();
        int sentences = 0;
        for (List<String> quotes : e.quotes.values()) sentences += quotes.size();
        int untold = Files.exists(DOC) ? untested(e.quotes) : 0;
        System.out.println(sentences + " sentences, " + e.checks + " checks of them, wrong: " + e.wrong + "; quotes that do not fit the document: " + untold);
        if (e.wrong + untold > 0) System.exit(1);
    }

    /** Sections of the document by their headings, each as one line. */
    private static Map<String, String> sections() throws IOException {
        Map<String, String> sections = new TreeMap<>();
        for (String part : Files.readString(DOC, StandardCharsets.UTF_8).split("\n## ")) {
            int end = part.indexOf('\n');
            if (end < 0) continue;
            String body = part.substring(end).replaceAll("(?m)^```.*$", "").replaceAll("\\s+", " ");
            sections.put(part.substring(0, end).trim(), body);
        }
        return sections;
    }

    private static int untested(Map<String, List<String>> quotes) throws IOException {
        int untold = 0;
        Map<String, String> sections = sections();
        for (Map.Entry<String, List<String>> s : quotes.entrySet()) {
            if (!sections.containsKey(s.getKey())) {
                untold++;
                System.out.println("no such section in the document: " + s.getKey());
            }
        }
        for (Map.Entry<String, String> s : sections.entrySet()) {
            boolean promise = s.getKey().startsWith("Promise ");
            if (!promise && !s.getKey().equals("Terms")) continue;
            String body = promise ? s.getValue().replaceFirst("`[^`]*`:", "") : s.getValue();
            untold += untestedOf(s.getKey(), body, quotes.getOrDefault(s.getKey(), List.of()));
        }
        return untold;
    }

    private static int untestedOf(String section, String body, List<String> quotes) {
        int untold = 0;
        boolean[] told = new boolean[body.length()];
        for (String quote : quotes) {
            int at = body.indexOf(quote);
            if (at < 0) {
                untold++;
                System.out.println(section + ": not in the document: " + quote);
            }
            for (; at >= 0; at = body.indexOf(quote, at + 1)) java.util.Arrays.fill(told, at, at + quote.length(), true);
        }
        StringBuilder rest = new StringBuilder();
        for (int i = 0; i < told.length; i++) rest.append(told[i] ? '\n' : body.charAt(i));
        for (String piece : rest.toString().split("\n+")) {
            if (piece.replaceAll("[ .:;,|()]", "").isEmpty()) continue;
            untold++;
            System.out.println(section + ": has no test: " + piece);
        }
        return untold;
    }
}

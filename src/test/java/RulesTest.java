import java.lang.management.ManagementFactory;
import java.lang.reflect.Constructor;
import java.lang.reflect.Field;
import java.lang.reflect.Method;
import java.lang.reflect.Modifier;
import java.nio.charset.StandardCharsets;
import java.nio.file.Files;
import java.nio.file.Path;
import java.util.Arrays;
import java.util.HashSet;
import java.util.List;
import java.util.Set;
import java.util.TreeSet;

/** The face of the document, such rules of LANGUAGE.md as can be seen from outside, and the room that a run takes. */
public final class RulesTest {
    private static int wrong;

    private static void must(boolean so, String what) {
        if (!so) {
            wrong++;
            System.out.println("not so: " + what);
        }
    }

    public static void main(String[] args) throws Exception {
        face();
        Set<String> names = new HashSet<>();
        for (Method m : RaftTown.class.getDeclaredMethods()) if (Modifier.isPublic(m.getModifiers())) names.add(m.getName());
        shape(RaftTown.class, names, true);
        Class<?>[] inside = RaftTown.class.getDeclaredClasses();
        must(inside.length <= 12, "at most some twelve classes");
        for (Class<?> c : inside) shape(c, names, false);
        source();
        room();
        System.out.println("rules that are not kept: " + wrong);
        if (wrong > 0) System.exit(1);
    }

    private static void face() {
        Set<String> due = new TreeSet<>(Arrays.asList(("int feed(int,int,int,int,int);boolean end(int);int lagoon();int fault();"
                + "int water(int,int,int);int raft(int,int);int at(int,int);boolean lay();int aground(int);int breaks(int);int floats(int);"
                + "int gap(int,int);int move(int,int,int);int wants(int);int plan();int act(int,int);int judge(int);int judged(int);"
                + "int judgedAt(int,int);int tooMany(int);int instead(int);int least(int);int changed(int,int,int);"
                + "int alone(int,int,int,int,int);int best(int,int);int found(int);int all();int allAt(int,int);int left();"
                + "int could(int,int,int,int);int storm(int);int cut(int,int,int);boolean image(int);boolean restore(int);int count(int)").split(";")));
        Set<String> got = new TreeSet<>();
        for (Method m : RaftTown.class.getDeclaredMethods()) {
            if (Modifier.isPrivate(m.getModifiers())) continue;
            StringBuilder s = new StringBuilder();
            for (Class<?> p : m.getParameterTypes()) s.append(s.length() > 0 ? "," : "").append(p);
            got.add(m.getReturnType() + " " + m.getName() + "(" + s + ")");
            must(Modifier.isPublic(m.getModifiers()) && !Modifier.isStatic(m.getModifiers()), m.getName() + " is public");
            boolean throwing = m.getName().equals("raft") || m.getName().equals("act");
            must(m.getExceptionTypes().length == (throwing ? 1 : 0), m.getName() + " names what it throws");
        }
        must(got.equals(due), "the methods of the face: " + got);
        Constructor<?>[] all = RaftTown.class.getDeclaredConstructors();
        must(all.length == 1 && Modifier.isPublic(all[0].getModifiers()) && all[0].getParameterCount() == 0, "one public constructor");
        must(Modifier.isFinal(RaftTown.class.getModifiers()), "final");
        for (Field f : RaftTown.class.getDeclaredFields()) must(Modifier.isPrivate(f.getModifiers()) || f.getName().equals("NONE"), "private " + f);
    }

    private static void shape(Class<?> c, Set<String> faceNames, boolean outer) {
        must(outer || Modifier.isStatic(c.getModifiers()) && !Modifier.isPublic(c.getModifiers()) && !Modifier.isProtected(c.getModifiers()), c + " is static and not public");
        int fields = 0;
        for (Field f : c.getDeclaredFields()) {
            if (!Modifier.isStatic(f.getModifiers())) {
                fields++;
            } else {
                must(Modifier.isFinal(f.getModifiers()), f + " is final");
                must(List.of("int", "long", "boolean", "char", "java.lang.String").contains(f.getType().getName()), f + " is a constant");
            }
        }
        must(fields <= 20, c + " has at most some twenty fields");
        for (Method m : c.getDeclaredMethods()) {
            must(m.getParameterCount() <= 7, m + " takes at most seven");
            must(outer && Modifier.isPublic(m.getModifiers()) || !faceNames.contains(m.getName()), m + " bears no name of the face");
        }
    }

    private static void source() throws Exception {
        Path path = Path.of("src/main/java/RaftTown.java");
        String text = Files.readString(path, StandardCharsets.US_ASCII);
        for (String not : List.of("catch", "finally", "synchronized", "assert ", "->", "::", "Exact(", "package ", "throw e", "Object", "System.out")) {
            must(!text.contains(not), "without " + not);
        }
        for (String line : text.split("\n")) {
            must(line.length() <= 120, "a line of at most 120 signs: " + line);
            if (line.startsWith("import")) must(line.equals("import java.util.Arrays;") || line.equals("import java.util.NoSuchElementException;"), line);
        }
        int methodLines = 0;
        for (String line : text.split("\n")) {
            methodLines = line.matches(" {4}( {4})?[^ ].*\\) (throws \\w+ )?\\{") ? 1 : methodLines + 1;
            if (line.matches(" {4}( {4})?\\}")) {
                must(methodLines <= 61 || line.equals("    }"), "a method of at most sixty lines, up to: " + line);
                methodLines = 0;
            }
        }
    }

    /** The dearest calls over 512 calls, in bytes: an element has 8 at most, and there is room for 7.3 million. */
    private static void room() {
        com.sun.management.ThreadMXBean bean = (com.sun.management.ThreadMXBean) ManagementFactory.getThreadMXBean();
        long id = Thread.currentThread().getId();
        String text = "row 00000;row 00000;row 00000;row 00000;row 00000;raft a 1 2 0 0 0;raft b 2 1 0 2 0;raft c 1 2 0 4 3;pole 2 2;"
                + "pole 1 1;pole 3 3;pole 0 4;pole 4 0;beside a b 5;apart a b 7;sun a north 3;lies c 2 2 9;lies b 2 2 9;";
        byte[] bytes = text.getBytes(StandardCharsets.US_ASCII);
        int[] numbers = new int[(bytes.length + 19) / 20 * 5];
        for (int i = 0; i < bytes.length; i++) numbers[i / 4] |= (bytes[i] & 255) << 24 - i % 4 * 8;
        long before = bean.getThreadAllocatedBytes(id);
        RaftTown t = new RaftTown();
        for (int i = 0; i < numbers.length; i += 5) t.feed(numbers[i], numbers[i + 1], numbers[i + 2], numbers[i + 3], numbers[i + 4]);
        t.end(bytes.length);
        int lines = t.lagoon();
        for (int i = 0; i < 120; i++) {
            t.best(60, 0);
            t.changed(0, 2, 0);
            t.all();
            t.image(i % 2);
        }
        long took = bean.getThreadAllocatedBytes(id) - before;
        must(lines == 18, "the LAGOON of this test");
        must(took < 2_000_000, "a run of dear calls takes little room: " + took);
        System.out.println("a run of dear calls takes " + took + " bytes");
    }
}

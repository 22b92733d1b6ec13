import java.lang.reflect.InvocationTargetException;
import java.lang.reflect.Method;
import java.lang.reflect.Modifier;
import java.nio.file.Files;
import java.nio.file.Path;
import java.util.HashSet;
import java.util.Set;
import java.util.regex.Matcher;
import java.util.regex.Pattern;

/** Does the examples of README.md: each call must give the answer that stands behind it. */
public final class ReadmeTest {
    private static final String NEW = "RaftTown town = new RaftTown();";
    private static final Pattern TEXT = Pattern.compile("Tape\\.text\\(town, \"([^\"]*)\"\\);");
    private static final Pattern TOWN = Pattern.compile("Tape\\.town\\(town, ([-0-9, ]+)\\);");
    private static final Pattern CALL = Pattern.compile("town\\.(\\w+)\\(([-0-9a-fx, ]*)\\); +// (-?\\d+|true|false|throws \\w+)(: .*)?");

    private static int wrong;
    private static int calls;
    private static RaftTown town;
    private static final Set<String> told = new HashSet<>();

    public static void main(String[] args) throws Exception {
        boolean inside = false;
        for (String line : Files.readAllLines(Path.of("README.md"))) {
            if (line.startsWith("```")) {
                inside = line.equals("```java");
                town = null;
            } else if (inside && !line.isEmpty()) {
                example(line);
            }
        }
        for (Method m : RaftTown.class.getDeclaredMethods()) {
            if (Modifier.isPublic(m.getModifiers())) must(told.contains(m.getName()), "an example of " + m.getName() + "()");
        }
        System.out.println(calls + " calls of README.md, wrong: " + wrong);
        if (wrong > 0) System.exit(1);
    }

    private static void must(boolean so, String what) {
        if (!so) {
            wrong++;
            System.out.println("README.md, not so: " + what);
        }
    }

    private static void example(String line) throws Exception {
        Matcher text = TEXT.matcher(line), laid = TOWN.matcher(line), call = CALL.matcher(line);
        if (line.equals(NEW)) {
            town = new RaftTown();
        } else if (town == null) {
            must(false, "an object is made ahead of: " + line);
        } else if (text.matches()) {
            Tape.text(town, text.group(1));
        } else if (laid.matches()) {
            Tape.town(town, numbers(laid.group(1)));
        } else if (call.matches()) {
            calls++;
            told.add(call.group(1));
            String got = answer(call.group(1), numbers(call.group(2)));
            must(got.equals(call.group(3)), line + " (it answered " + got + ")");
        } else {
            must(false, "a line of an example is a call with its answer: " + line);
        }
    }

    private static int[] numbers(String list) {
        if (list.isBlank()) return new int[0];
        String[] parts = list.split(", ");
        int[] numbers = new int[parts.length];
        for (int i = 0; i < parts.length; i++) numbers[i] = Integer.decode(parts[i]);
        return numbers;
    }

    private static String answer(String name, int[] numbers) throws Exception {
        Class<?>[] types = new Class<?>[numbers.length];
        Object[] values = new Object[numbers.length];
        for (int i = 0; i < numbers.length; i++) {
            types[i] = int.class;
            values[i] = numbers[i];
        }
        try {
            return "" + RaftTown.class.getMethod(name, types).invoke(town, values);
        } catch (NoSuchMethodException e) {
            return "that there is no such call";
        } catch (InvocationTargetException e) {
            return "throws " + e.getCause().getClass().getSimpleName();
        }
    }
}

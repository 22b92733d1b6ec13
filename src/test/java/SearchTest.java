import java.nio.charset.StandardCharsets;
import java.util.ArrayList;
import java.util.List;
import java.util.Random;

/** best(), all(), changed() and their rows of ACTS against PlainModel in LAGOONS as large as they may be. */
public final class SearchTest {
    private static final String[] SIDES = {"north", "east", "south", "west"};
    private static final int[][] SHAPES = {{1, 2}, {2, 1}, {1, 1}, {1, 3}, {3, 1}, {2, 2}, {2, 3}};

    public static void main(String[] args) {
        Random random = new Random(5);
        int told = 0;
        int wrong = 0;
        for (int run = 0; run < 30; run++) {
            String text = lagoonText(random);
            RaftTown program = new RaftTown();
            PlainModel model = new PlainModel();
            feed(program, model, text);
            int lines = program.lagoon();
            if (lines != model.lagoon()) wrong++;
            if (lines < 0) continue;
            told++;
            boolean same = program.best(60, 0) == model.best(60, 0) && samePath(program, model)
                    && program.all() == model.all() && sameAll(program, model)
                    && program.changed(0, 1, 0) == model.changed(0, 1, 0) && samePath(program, model)
                    && program.best(5, 3) == model.best(5, 3) && samePath(program, model);
            if (!same) {
                wrong++;
                System.out.println("not the same: " + text);
            }
        }
        System.out.println(told + " large searches against the plain model, wrong: " + wrong);
        if (wrong > 0 || told < 10) System.exit(1);
    }

    private static boolean samePath(RaftTown program, PlainModel model) {
        for (int i = 0; i < 200; i++) if (program.found(i) != model.found(i)) return false;
        return true;
    }

    private static boolean sameAll(RaftTown program, PlainModel model) {
        boolean same = program.left() == model.left();
        for (int r = 0; r < 4; r++) for (int what = 0; what < 4; what++) same &= program.allAt(r, what) == model.allAt(r, what);
        return same;
    }

    private static void feed(RaftTown program, PlainModel model, String text) {
        byte[] bytes = text.getBytes(StandardCharsets.US_ASCII);
        for (int i = 0; i < bytes.length; i += 20) {
            int[] n = new int[5];
            for (int k = 0; k < 20; k++) n[k / 4] = n[k / 4] << 8 | (i + k < bytes.length ? bytes[i + k] & 255 : 0);
            program.feed(n[0], n[1], n[2], n[3], n[4]);
            model.feed(n);
        }
        program.end(bytes.length);
        model.end(bytes.length);
    }

    private static String lagoonText(Random random) {
        int columns, rows;
        do {
            columns = 2 + random.nextInt(7);
            rows = 2 + random.nextInt(7);
        } while (columns * rows > 25 || columns * rows < 16);
        StringBuilder s = new StringBuilder();
        for (int y = 0; y < rows; y++) {
            s.append("row ");
            for (int x = 0; x < columns; x++) s.append(random.nextInt(12) == 0 ? 4 : 0);
            s.append(';');
        }
        List<int[]> taken = new ArrayList<>();
        for (int attempt = 0; attempt < 500 && taken.size() < 3; attempt++) {
            int[] shape = SHAPES[random.nextInt(SHAPES.length)];
            int x = random.nextInt(columns), y = random.nextInt(rows);
            boolean fits = x + shape[0] <= columns && y + shape[1] <= rows;
            for (int[] t : taken) fits &= x + shape[0] <= t[0] || t[0] + t[2] <= x || y + shape[1] <= t[1] || t[1] + t[3] <= y;
            if (fits) {
                s.append("raft ").append((char) ('a' + taken.size())).append(' ').append(shape[0]).append(' ').append(shape[1])
                        .append(' ').append(random.nextInt(3)).append(' ').append(x).append(' ').append(y).append(';');
                taken.add(new int[] {x, y, shape[0], shape[1]});
            }
        }
        for (int x = 0; x < Math.min(4, columns); x++) s.append("pole ").append(x).append(' ').append(random.nextInt(rows)).append(';');
        if (random.nextBoolean()) s.append("rope a b ").append(3 + random.nextInt(7)).append(" 3;");
        for (int i = 0; i < 8; i++) s.append(want(random, columns, rows)).append(' ').append(1 + random.nextInt(9)).append(';');
        return s.toString();
    }

    private static String want(Random random, int columns, int rows) {
        int a = random.nextInt(3);
        String one = " " + (char) ('a' + a);
        String other = " " + (char) ('a' + (a + 1 + random.nextInt(2)) % 3);
        switch (random.nextInt(4)) {
            case 0: return "beside" + one + other;
            case 1: return "apart" + one + other;
            case 2: return "sun" + one + " " + SIDES[random.nextInt(4)];
            default: return "lies" + one + " " + random.nextInt(columns) + " " + random.nextInt(rows);
        }
    }
}

import java.nio.charset.StandardCharsets;

/** Puts a text, or the bytes of a TOWN, behind what is on a tape, with nothing more behind it. */
final class Tape {
    private Tape() { }

    static void bytes(RaftTown t, byte[] bytes) {
        int before = t.count(7);
        for (int i = 0; i < bytes.length; i += 20) {
            int[] n = new int[5];
            for (int k = 0; k < 20; k++) n[k / 4] = n[k / 4] << 8 | (i + k < bytes.length ? bytes[i + k] & 255 : 0);
            t.feed(n[0], n[1], n[2], n[3], n[4]);
        }
        t.end(before + bytes.length);
    }

    static void text(RaftTown t, String text) { bytes(t, text.getBytes(StandardCharsets.ISO_8859_1)); }

    static void town(RaftTown t, int... numbers) {
        byte[] bytes = new byte[numbers.length];
        for (int i = 0; i < bytes.length; i++) bytes[i] = (byte) numbers[i];
        bytes(t, bytes);
    }
}

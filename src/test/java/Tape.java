import java.nio.charset.StandardCharsets;
import java.util.Arrays;

/** Feeds texts as numbers: twenty bytes a call, filled up with blanks. */
final class Tape {
    private Tape() { }

    static int[][] numbers(String text) {
        byte[] bytes = text.getBytes(StandardCharsets.ISO_8859_1);
        int feeds = (bytes.length + 19) / 20;
        byte[] full = Arrays.copyOf(bytes, feeds * 20);
        Arrays.fill(full, bytes.length, full.length, (byte) ' ');
        int[][] all = new int[feeds][5];
        for (int i = 0; i < feeds * 5; i++) {
            all[i / 5][i % 5] = java.nio.ByteBuffer.wrap(full, 4 * i, 4).getInt();
        }
        return all;
    }

    static void feed(RingWaters x, String text) {
        for (int[] five : numbers(text)) {
            x.feed(five[0], five[1], five[2], five[3], five[4]);
        }
    }

    /** A text told to an object whose tape is empty. */
    static int tell(RingWaters x, String text) {
        feed(x, text);
        return x.text(text.length());
    }

    static RingWaters told(String text) {
        RingWaters x = new RingWaters();
        if (tell(x, text) == RingWaters.NONE) {
            throw new IllegalStateException("fault " + x.fault() + " at " + x.where() + " of " + text);
        }
        return x;
    }
}

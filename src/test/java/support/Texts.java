import java.nio.charset.StandardCharsets;
import java.util.Arrays;

/** Brings texts onto the tape of a desk, filled up with blanks behind to whole feeds. */
final class Texts {
    private Texts() {
    }

    /** The twenty bytes from a place on as the five numbers of feed; blanks behind the end. */
    static int[] feedOf(String text, int from) {
        byte[] bytes = text.getBytes(StandardCharsets.ISO_8859_1);
        byte[] twenty = new byte[20];
        Arrays.fill(twenty, (byte) 32);
        for (int i = 0; i < 20 && from + i < bytes.length; i++) {
            twenty[i] = bytes[from + i];
        }
        int[] five = new int[5];
        for (int i = 0; i < 20; i++) {
            five[i / 4] = five[i / 4] << 8 | twenty[i] & 255;
        }
        return five;
    }

    static void feed(ShellHeap desk, String text) {
        for (int from = 0; from < text.length(); from += 20) {
            int[] five = feedOf(text, from);
            desk.feed(five[0], five[1], five[2], five[3], five[4]);
        }
    }

    static int finds(ShellHeap desk, String text, int layer) {
        feed(desk, text);
        return desk.finds(text.length(), layer);
    }

    static int rules(ShellHeap desk, String text) {
        feed(desk, text);
        return desk.rules(text.length());
    }
}

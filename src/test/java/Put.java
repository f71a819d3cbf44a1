import java.nio.charset.StandardCharsets;
import java.util.Arrays;

/** Puts texts on a tape, twenty bytes a call. */
final class Put {
    private Put() {
    }

    static void text(BothLists x, String text) {
        bytes(x, text.getBytes(StandardCharsets.ISO_8859_1));
    }

    static void bytes(BothLists x, byte[] bytes) {
        x.end(0);
        for (int[] five : fives(bytes)) {
            x.feed(five[0], five[1], five[2], five[3], five[4]);
        }
        x.end(bytes.length);
    }

    static int[][] fives(byte[] bytes) {
        int calls = (bytes.length + 19) / 20;
        byte[] padded = Arrays.copyOf(bytes, 20 * calls);
        int[][] all = new int[calls][5];
        for (int i = 0; i < padded.length; i++) {
            all[i / 20][i % 20 / 4] |= (padded[i] & 255) << (24 - 8 * (i % 4));
        }
        return all;
    }
}

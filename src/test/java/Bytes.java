import java.util.ArrayList;
import java.util.List;

/** Rows of bytes, and what a server makes of them. */
final class Bytes {
    private Bytes() {
    }

    static int digest(int[]... rows) {
        long d = 0;
        for (int[] row : rows) {
            for (int b : row) {
                d = ((d ^ b) * 16777619L) & 0xFFFFFFFFL;
                d = ((d << 7 | d >>> 25) + 97) & 0xFFFFFFFFL;
            }
        }
        return (int) d;
    }

    static int[] word(int word) {
        return new int[] {word >>> 24, word >>> 16 & 255, word >>> 8 & 255, word & 255};
    }

    /** A row of a length that has no period of its own; another seed gives another row. */
    static int[] image(int length, int seed) {
        int[] row = new int[length];
        for (int i = 0; i < length; i++) {
            row[i] = (i * i * 7 + i * 31 + seed * 59 + 3) & 255;
        }
        return row;
    }

    static int[] of(int... bytes) {
        return bytes;
    }

    static int[] join(int[]... rows) {
        List<Integer> all = new ArrayList<>();
        for (int[] row : rows) {
            for (int b : row) {
                all.add(b);
            }
        }
        return all.stream().mapToInt(Integer::intValue).toArray();
    }

    static int[] part(int[] row, int from, int length) {
        return java.util.Arrays.copyOfRange(row, from, from + length);
    }

    /** A patch that tells every byte of the image. */
    static int[] literals(int[] image) {
        int[] patch = {};
        for (int from = 0; from < image.length; from += 128) {
            int count = Math.min(128, image.length - from);
            patch = join(patch, of(count - 1), part(image, from, count));
        }
        return patch;
    }
}

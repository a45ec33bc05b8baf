import java.util.Arrays;

/** The document once more, in its plainest form: each call makes a list of acts, and then does it. */
final class Model {
    private final int[] key;
    private final int vendor;
    final int[] flash = new int[Device.SIZE];
    private int[] tape = {};
    private boolean power = true;
    private int running = FlashBoot.NONE;
    private int acts = 0;
    private int crash = -1;
    private int mask = 0;

    Model(int key, int more, int vendor) {
        this.key = Bytes.join(Bytes.word(key), Bytes.word(more));
        this.vendor = vendor & 255;
        Arrays.fill(flash, 255);
    }

    int type(long bytes, int n) {
        if (n < 1 || n > 8) {
            return FlashBoot.BAD;
        }
        if (tape.length + n > 192) {
            return FlashBoot.FULL;
        }
        for (int i = n - 1; i >= 0; i--) {
            tape = Bytes.join(tape, Bytes.of((int) (bytes >> 8 * i & 255)));
        }
        return tape.length;
    }

    int factory(int sequence) {
        if (!power) {
            return FlashBoot.OFF;
        }
        if (sequence < 1 || sequence > 200 || tape.length == 0) {
            return FlashBoot.BAD;
        }
        int[] image = tape;
        tape = new int[0];
        running = FlashBoot.NONE;
        return act(1, Promise03FactoryTest.acts(sequence, image));
    }

    int manifest() {
        if (!power) {
            return FlashBoot.OFF;
        }
        int[] row = tape;
        tape = new int[0];
        int fault = row.length == 20 ? faultOf(row) : FlashBoot.BAD;
        if (fault != 0) {
            return fault;
        }
        if (isOld(row[1])) {
            return FlashBoot.OLD;
        }
        if (Arrays.equals(row, page20())) {
            return 1;
        }
        return act(0, new Acts().erase(21, 20, 14, 15, 16, 17, 18, 19).program(640, row));
    }

    private int[] page20() {
        return Bytes.part(flash, 640, 20);
    }

    private int faultOf(int[] row) {
        if (row[1] == 0 || row[1] > 200 || row[6] == 0 || row[6] > 192 || row[11] == 0 || row[11] > 192) {
            return FlashBoot.BAD;
        }
        int tag = Bytes.digest(key, Bytes.part(row, 0, 16));
        return row[0] == vendor && Arrays.equals(Bytes.word(tag), Bytes.part(row, 16, 4)) ? 0 : FlashBoot.TAG;
    }

    private boolean isOld(int sequence) {
        return sequence <= counter() || running < 0 || flash[header(running) + 1] >= sequence;
    }

    private static int header(int slot) {
        return slot == 0 ? 192 : 416;
    }

    int block(int k) {
        if (!power) {
            return FlashBoot.OFF;
        }
        int length = flash[646];
        if (faultOf(page20()) != 0 || k < 0 || k >= 12 || 16 * k >= length
            || tape.length != Math.min(16, length - 16 * k)) {
            return FlashBoot.BAD;
        }
        int[] row = tape;
        tape = new int[0];
        if (flash[672 + k] == 0) {
            return 0;
        }
        return act(1, new Acts().program(448 + 16 * k, row).program(672 + k, 0));
    }

    int install() {
        if (!power) {
            return FlashBoot.OFF;
        }
        int[] row = page20();
        if (faultOf(row) != 0) {
            return FlashBoot.NONE;
        }
        if (isOld(row[1])) {
            return FlashBoot.OLD;
        }
        for (int k = 0; 16 * k < row[6]; k++) {
            if (flash[672 + k] != 0) {
                return FlashBoot.LACKS;
            }
        }
        int[] image = imageOf(row, Bytes.part(flash, 448, row[6]));
        if (image == null) {
            return FlashBoot.WRONG;
        }
        return act(1, Promise06InstallTest.acts(1 - running, row[1], image));
    }

    private int[] imageOf(int[] row, int[] payload) {
        int[] base = Bytes.part(flash, 224 * running, flash[header(running)]);
        boolean isTold = !Arrays.equals(Bytes.part(row, 2, 4), new int[4]);
        boolean isRight = Arrays.equals(Bytes.part(row, 7, 4), Bytes.word(Bytes.digest(payload)))
            && (!isTold || Arrays.equals(Bytes.part(row, 2, 4), Bytes.word(Bytes.digest(base))));
        if (!isRight) {
            return null;
        }
        int[] image = unfold(payload, isTold ? base : new int[0]);
        return image != null && image.length == row[11]
            && Arrays.equals(Bytes.part(row, 12, 4), Bytes.word(Bytes.digest(image))) ? image : null;
    }

    private static int[] unfold(int[] payload, int[] base) {
        int[] image = {};
        int[] rest = payload;
        while (rest.length > 0) {
            int b = rest[0];
            boolean isLiteral = b < 128;
            int[] source = isLiteral ? rest : base;
            int count = isLiteral ? b + 1 : b - 127;
            if (!isLiteral && rest.length < 2) {
                return null;
            }
            int from = isLiteral ? 1 : rest[1];
            if (from + count > source.length) {
                return null;
            }
            image = Bytes.join(image, Bytes.part(source, from, count));
            int used = isLiteral ? 1 + count : 2;
            rest = Bytes.part(rest, used, rest.length - used);
        }
        return image;
    }

    int boot() {
        power = true;
        running = FlashBoot.NONE;
        int trial = FlashBoot.NONE;
        int sure = FlashBoot.NONE;
        for (int slot = 1; slot >= 0; slot--) {
            boolean isConfirmed = flash[header(slot) + 7] == 0;
            if (good(slot) == 1 && isConfirmed && isNotLess(slot, sure)) {
                sure = slot;
            }
            if (good(slot) == 1 && !isConfirmed && flash[header(slot) + 6] != 0 && isNotLess(slot, trial)) {
                trial = slot;
            }
        }
        if (trial < 0) {
            running = sure;
            return sure;
        }
        int at = header(trial) + 6;
        running = trial;
        return act(trial, new Acts().program(at, flash[at] - Integer.lowestOneBit(flash[at])));
    }

    private boolean isNotLess(int slot, int other) {
        return other < 0 || flash[header(slot) + 1] >= flash[header(other) + 1];
    }

    int confirm() {
        if (!power) {
            return FlashBoot.OFF;
        }
        if (running < 0) {
            return FlashBoot.NONE;
        }
        int at = header(running) + 7;
        if (flash[at] == 0) {
            return 0;
        }
        Acts wanted = new Acts().program(at, 0);
        int[] bits = Bytes.part(flash, 704, 32);
        int i = 0;
        for (int count = counter(); count < flash[at - 6]; count++) {
            while (bits[i] == 0) {
                i++;
            }
            bits[i] &= ~Integer.lowestOneBit(bits[i]);
            wanted.program(704 + i, bits[i]);
        }
        return act(1, wanted);
    }

    int crash(int n, int newMask) {
        if (newMask < 0 || newMask > 255) {
            return FlashBoot.BAD;
        }
        crash = Math.max(-1, n);
        mask = newMask;
        return 1;
    }

    int running() {
        return running;
    }

    int counter() {
        int zeros = 256;
        for (int i = 704; i < 736; i++) {
            zeros -= Integer.bitCount(flash[i]);
        }
        return zeros;
    }

    int acts() {
        return acts;
    }

    int byteOf(int i) {
        return i < 0 || i >= Device.SIZE ? FlashBoot.BAD : flash[i];
    }

    int good(int slot) {
        if (slot < 0 || slot > 1) {
            return FlashBoot.BAD;
        }
        int[] header = Bytes.part(flash, header(slot), 9);
        if (header[8] != 0 || header[0] == 0 || header[0] > 192 || header[1] < counter()) {
            return 0;
        }
        int[] digest = Bytes.word(Bytes.digest(Bytes.part(flash, 224 * slot, header[0])));
        return Arrays.equals(digest, Bytes.part(header, 2, 4)) ? 1 : 0;
    }

    private int act(int answer, Acts wanted) {
        if (crash < 0 || crash >= wanted.size()) {
            wanted.apply(flash, wanted.size(), 0);
            acts += wanted.size();
            crash = crash < 0 ? -1 : crash - wanted.size();
            return answer;
        }
        wanted.apply(flash, crash, mask);
        acts += crash + 1;
        crash = -1;
        power = false;
        running = FlashBoot.NONE;
        return FlashBoot.OFF;
    }
}

/**
 * Updates over the air into flash that may be torn at any act. The object is the whole device: its
 * flash, its power, the tape on which bytes come in, and the image that runs.
 */
public final class FlashBoot {
    public static final int BAD = -1;
    public static final int OFF = -2;
    public static final int OLD = -3;
    public static final int TAG = -4;
    public static final int LACKS = -5;
    public static final int WRONG = -6;
    public static final int NONE = -7;
    public static final int FULL = -8;

    private static final int PAGE = 32;
    private static final int ERASED = 255;
    /** No image, no payload and no tape is longer. */
    private static final int MOST = 192;
    private static final int TOP_SEQUENCE = 200;
    private static final int BLOCK = 16;

    private static final int LOWER_PAGE = 0;
    private static final int UPPER_PAGE = 7;
    private static final int STAGE_PAGE = 14;
    private static final int MANIFEST_PAGE = 20;
    private static final int MAP_PAGE = 21;
    private static final int COUNTER_PAGE = 22;
    private static final int STAGE = STAGE_PAGE * PAGE;
    private static final int MAP = MAP_PAGE * PAGE;
    private static final int COUNTER = COUNTER_PAGE * PAGE;

    private final int[] keyBytes;
    private final int vendorByte;
    private final Flash flash = new Flash();
    private final Tape tape = new Tape();
    private final Slot lower = new Slot(LOWER_PAGE);
    private final Slot upper = new Slot(UPPER_PAGE);
    private final Manifest order = new Manifest();
    private final Patch patch = new Patch();
    private int runs = NONE;

    public FlashBoot(int key, int more, int vendor) {
        keyBytes = rowOfWords(key, more);
        vendorByte = vendor & 255;
    }

    public int type(long bytes, int n) {
        if (n < 1 || n > 8) {
            return BAD;
        }
        return tape.add(bytes, n) ? tape.length : FULL;
    }

    public int factory(int sequence) {
        if (!flash.power) {
            return OFF;
        }
        if (!isSequence(sequence) || tape.length < 1) {
            return BAD;
        }
        runs = NONE;
        lower.eraseImage(flash);
        lower.eraseHeader(flash);
        flash.erase(COUNTER_PAGE);
        lower.programImage(flash, tape.bytes, tape.length);
        lower.programName(flash, tape.length, sequence, digest(0, tape.bytes, tape.length));
        lower.programConfirmed(flash);
        lower.programWhole(flash);
        tape.length = 0;
        return unlessTorn(1);
    }

    public int manifest() {
        if (!flash.power) {
            return OFF;
        }
        int answer = judgeTape();
        if (answer == 0) {
            stageAnew();
        }
        tape.length = 0;
        return unlessTorn(answer);
    }

    public int block(int k) {
        if (!flash.power) {
            return OFF;
        }
        if (!readStagedManifest() || !isBlockOf(k, order.payloadLength()) || tape.length != blockLength(k)) {
            return BAD;
        }
        boolean isNew = !isThere(k);
        if (isNew) {
            flash.programRow(STAGE + BLOCK * k, tape.bytes, tape.length);
            flash.program(MAP + k, 0);
        }
        tape.length = 0;
        return unlessTorn(isNew ? 1 : 0);
    }

    public int install() {
        if (!flash.power) {
            return OFF;
        }
        if (!readStagedManifest()) {
            return NONE;
        }
        if (isOld(order.sequence())) {
            return OLD;
        }
        if (!isWhollyStaged()) {
            return LACKS;
        }
        if (!makeImage(slot(runs))) {
            return WRONG;
        }
        programUpdate(slot(1 - runs));
        return unlessTorn(1);
    }

    public int boot() {
        flash.power = true;
        runs = slotOnTrial();
        if (runs == NONE) {
            runs = slotConfirmed();
            return runs;
        }
        slot(runs).useTrial(flash);
        return unlessTorn(runs);
    }

    public int confirm() {
        if (!flash.power) {
            return OFF;
        }
        if (runs == NONE) {
            return NONE;
        }
        Slot slot = slot(runs);
        if (slot.isConfirmed(flash)) {
            return 0;
        }
        slot.programConfirmed(flash);
        raiseCounter(slot.sequence(flash));
        return unlessTorn(1);
    }

    public int crash(int n, int mask) {
        if (mask < 0 || mask > 255) {
            return BAD;
        }
        flash.setCrash(n, mask);
        return 1;
    }

    public int running() {
        return runs;
    }

    public int counter() {
        int zeros = 0;
        for (int i = 0; i < PAGE; i++) {
            zeros += 8 - Integer.bitCount(flash.at(COUNTER + i));
        }
        return zeros;
    }

    public int acts() {
        return flash.actsDone;
    }

    public int byteOf(int i) {
        return flash.at(i);
    }

    public int good(int slot) {
        if (slot != 0 && slot != 1) {
            return BAD;
        }
        return isGood(slot(slot)) ? 1 : 0;
    }

    private Slot slot(int number) {
        return number == 0 ? lower : upper;
    }

    /** What a call answers behind its acts: a torn one took the power and all that ran. */
    private int unlessTorn(int answer) {
        if (flash.power) {
            return answer;
        }
        runs = NONE;
        return OFF;
    }

    private static boolean isSequence(int sequence) {
        return sequence >= 1 && sequence <= TOP_SEQUENCE;
    }

    private static boolean isLength(int length) {
        return length >= 1 && length <= MOST;
    }

    // The manifest and its blocks

    /** The answer to the tape as a manifest; 0 when it is to be staged. */
    private int judgeTape() {
        if (tape.length != Manifest.LENGTH) {
            return BAD;
        }
        order.readTape(tape);
        if (!order.isInRange()) {
            return BAD;
        }
        if (!isOurs()) {
            return TAG;
        }
        if (isOld(order.sequence())) {
            return OLD;
        }
        return order.standsIn(flash) ? 1 : 0;
    }

    private boolean isOurs() {
        return order.isTagged(keyBytes) && order.vendor() == vendorByte;
    }

    private boolean isOld(int sequence) {
        return sequence <= counter() || runs == NONE || slot(runs).sequence(flash) >= sequence;
    }

    /** The map goes first, so that a torn call never leaves blocks marked that are another payload's. */
    private void stageAnew() {
        flash.erase(MAP_PAGE);
        flash.erase(MANIFEST_PAGE);
        for (int page = STAGE_PAGE; page < MANIFEST_PAGE; page++) {
            flash.erase(page);
        }
        flash.programRow(MANIFEST_PAGE * PAGE, order.bytes, Manifest.LENGTH);
    }

    private boolean readStagedManifest() {
        order.readPage(flash);
        return order.isInRange() && isOurs();
    }

    private static boolean isBlockOf(int k, int payloadLength) {
        return k >= 0 && k < blocksOf(payloadLength);
    }

    private static int blocksOf(int payloadLength) {
        return (payloadLength + BLOCK - 1) / BLOCK;
    }

    private int blockLength(int k) {
        return Math.min(BLOCK, order.payloadLength() - BLOCK * k);
    }

    private boolean isThere(int k) {
        return flash.at(MAP + k) == 0;
    }

    private boolean isWhollyStaged() {
        int blocks = blocksOf(order.payloadLength());
        for (int k = 0; k < blocks; k++) {
            if (!isThere(k)) {
                return false;
            }
        }
        return true;
    }

    // The update

    /** Makes the image that the manifest orders; whether all is right with it. */
    private boolean makeImage(Slot running) {
        if (flash.digestOf(STAGE, order.payloadLength()) != order.payloadDigest()) {
            return false;
        }
        boolean isBased = order.baseDigest() != 0;
        if (isBased && order.baseDigest() != running.digest(flash)) {
            return false;
        }
        int baseLength = isBased ? running.length(flash) : 0;
        return patch.unfold(flash, order.payloadLength(), running.start, baseLength)
            && patch.made == order.imageLength()
            && digest(0, patch.image, patch.made) == order.imageDigest();
    }

    private void programUpdate(Slot slot) {
        slot.eraseHeader(flash);
        slot.eraseImage(flash);
        slot.programImage(flash, patch.image, patch.made);
        slot.programName(flash, order.imageLength(), order.sequence(), order.imageDigest());
        slot.programTrials(flash);
        slot.programWhole(flash);
        flash.erase(MANIFEST_PAGE);
    }

    // The choice at a boot, and the counter

    private int slotOnTrial() {
        return later(isGood(lower) && lower.isOnTrial(flash), isGood(upper) && upper.isOnTrial(flash));
    }

    private int slotConfirmed() {
        return later(isGood(lower) && lower.isConfirmed(flash), isGood(upper) && upper.isConfirmed(flash));
    }

    private boolean isGood(Slot slot) {
        return slot.isGood(flash, counter());
    }

    /** Of the slots that can run the one with the greater sequence. */
    private int later(boolean lowerCan, boolean upperCan) {
        if (upperCan && (!lowerCan || upper.sequence(flash) > lower.sequence(flash))) {
            return 1;
        }
        return lowerCan ? 0 : NONE;
    }

    private void raiseCounter(int value) {
        for (int count = counter(); count < value; count++) {
            clearCounterBit();
        }
    }

    private void clearCounterBit() {
        for (int i = COUNTER; i < COUNTER + PAGE; i++) {
            if (flash.at(i) != 0) {
                flash.programLowestBit(i);
                return;
            }
        }
    }

    // Rows of bytes

    private static int digest(int start, int[] row, int length) {
        int d = start;
        for (int i = 0; i < length && i < row.length; i++) {
            d = digestByte(d, row[i]);
        }
        return d;
    }

    private static int digestByte(int d, int b) {
        int product = (d ^ b) * 16777619;
        return (product << 7 | product >>> 25) + 97;
    }

    /** The byte of a word that stands at place 0 .. 3, the highest one first. */
    private static int byteOfWord(int word, int place) {
        return word >>> (24 - 8 * place) & 255;
    }

    private static int[] rowOfWords(int first, int second) {
        int[] row = new int[8];
        for (int i = 0; i < 4; i++) {
            row[i] = byteOfWord(first, i);
            row[i + 4] = byteOfWord(second, i);
        }
        return row;
    }

    /** The flash, its power and its crash. Without power an act does nothing and is none. */
    private static final class Flash {
        private static final int SIZE = 24 * PAGE;

        private final int[] bytes = new int[SIZE];
        private boolean power = true;
        private int actsDone = 0;
        private boolean crashIsSet = false;
        private int actsToCrash = 0;
        private int crashMask = 0;

        Flash() {
            for (int i = 0; i < SIZE; i++) {
                bytes[i] = ERASED;
            }
        }

        /** Byte i; BAD when there is none. */
        int at(int i) {
            return i >= 0 && i < SIZE ? bytes[i] : BAD;
        }

        void setCrash(int acts, int mask) {
            crashIsSet = acts >= 0;
            actsToCrash = acts;
            crashMask = mask;
        }

        void erase(int page) {
            if (!power || page < 0 || page * PAGE >= SIZE) {
                return;
            }
            int count = tearNextAct() ? crashMask % PAGE : PAGE;
            for (int i = 0; i < count; i++) {
                bytes[page * PAGE + i] = ERASED;
            }
        }

        void program(int i, int value) {
            if (!power || i < 0 || i >= SIZE) {
                return;
            }
            int kept = tearNextAct() ? value | crashMask : value;
            bytes[i] = bytes[i] & kept;
        }

        /** Counts an act that is about to be; whether it is torn, and then the power is gone. */
        private boolean tearNextAct() {
            actsDone++;
            if (!crashIsSet) {
                return false;
            }
            if (actsToCrash > 0) {
                actsToCrash--;
                return false;
            }
            crashIsSet = false;
            power = false;
            return true;
        }

        void programRow(int from, int[] row, int length) {
            for (int i = 0; i < length && i < row.length; i++) {
                program(from + i, row[i]);
            }
        }

        void programWord(int from, int word) {
            for (int i = 0; i < 4; i++) {
                program(from + i, byteOfWord(word, i));
            }
        }

        /** The lowest bit of byte i that is 1 becomes 0. */
        void programLowestBit(int i) {
            int old = at(i);
            program(i, old & (old - 1));
        }

        int word(int from) {
            int word = 0;
            for (int i = 0; i < 4; i++) {
                word = word << 8 | at(from + i);
            }
            return word;
        }

        int digestOf(int from, int length) {
            int d = 0;
            for (int i = 0; i < length; i++) {
                d = digestByte(d, at(from + i));
            }
            return d;
        }
    }

    /** What has been typed and not been used yet. */
    private static final class Tape {
        private final int[] bytes = new int[MOST];
        private int length = 0;

        /** The lowest n bytes, the highest of them first; false when there is no room. */
        boolean add(long source, int n) {
            if (length + n > MOST) {
                return false;
            }
            for (int left = n - 1; left >= 0; left--) {
                bytes[length] = (int) (source >>> (8 * left)) & 255;
                length++;
            }
            return true;
        }
    }

    /** A place for an image: six pages, and its header behind them. */
    private static final class Slot {
        private static final int IMAGE_PAGES = 6;
        private static final int FOUR_TRIALS = 15;

        private final int firstPage;
        private final int start;
        private final int header;

        Slot(int firstPage) {
            this.firstPage = firstPage;
            start = firstPage * PAGE;
            header = (firstPage + IMAGE_PAGES) * PAGE;
        }

        int length(Flash flash) {
            return flash.at(header);
        }

        int sequence(Flash flash) {
            return flash.at(header + 1);
        }

        int digest(Flash flash) {
            return flash.word(header + 2);
        }

        boolean isConfirmed(Flash flash) {
            return flash.at(header + 7) == 0;
        }

        /** Whether it may still be booted on trial. */
        boolean isOnTrial(Flash flash) {
            return !isConfirmed(flash) && flash.at(header + 6) != 0;
        }

        boolean isWhole(Flash flash) {
            return flash.at(header + 8) == 0;
        }

        boolean isGood(Flash flash, int least) {
            return isWhole(flash) && isLength(length(flash)) && sequence(flash) >= least
                && flash.digestOf(start, length(flash)) == digest(flash);
        }

        void eraseHeader(Flash flash) {
            flash.erase(firstPage + IMAGE_PAGES);
        }

        void eraseImage(Flash flash) {
            for (int i = 0; i < IMAGE_PAGES; i++) {
                flash.erase(firstPage + i);
            }
        }

        void programImage(Flash flash, int[] image, int length) {
            flash.programRow(start, image, length);
        }

        void programName(Flash flash, int length, int sequence, int digest) {
            flash.program(header, length);
            flash.program(header + 1, sequence);
            flash.programWord(header + 2, digest);
        }

        void programTrials(Flash flash) {
            flash.program(header + 6, FOUR_TRIALS);
        }

        void useTrial(Flash flash) {
            flash.programLowestBit(header + 6);
        }

        void programConfirmed(Flash flash) {
            flash.program(header + 7, 0);
        }

        void programWhole(Flash flash) {
            flash.program(header + 8, 0);
        }
    }

    /** Twenty bytes, from the tape or from their page, that order an update. */
    private static final class Manifest {
        private static final int LENGTH = 20;
        private static final int TAGGED = 16;

        private final int[] bytes = new int[LENGTH];

        void readTape(Tape tape) {
            System.arraycopy(tape.bytes, 0, bytes, 0, LENGTH);
        }

        void readPage(Flash flash) {
            for (int i = 0; i < LENGTH; i++) {
                bytes[i] = flash.at(MANIFEST_PAGE * PAGE + i);
            }
        }

        boolean standsIn(Flash flash) {
            for (int i = 0; i < LENGTH; i++) {
                if (bytes[i] != flash.at(MANIFEST_PAGE * PAGE + i)) {
                    return false;
                }
            }
            return true;
        }

        int vendor() {
            return bytes[0];
        }

        int sequence() {
            return bytes[1];
        }

        /** 0 when it tells no base. */
        int baseDigest() {
            return word(2);
        }

        int payloadLength() {
            return bytes[6];
        }

        int payloadDigest() {
            return word(7);
        }

        int imageLength() {
            return bytes[11];
        }

        int imageDigest() {
            return word(12);
        }

        boolean isInRange() {
            return isSequence(sequence()) && isLength(payloadLength()) && isLength(imageLength());
        }

        boolean isTagged(int[] key) {
            return digest(digest(0, key, key.length), bytes, TAGGED) == word(TAGGED);
        }

        private int word(int from) {
            int word = 0;
            for (int i = from; i < from + 4 && i < LENGTH; i++) {
                word = word << 8 | bytes[i];
            }
            return word;
        }
    }

    /** Makes an image of the staged payload and of the base. */
    private static final class Patch {
        private static final int FROM_BASE = 128;

        private final int[] image = new int[MOST];
        private int made = 0;

        /** Whether all parts are whole and the base has what they want; made is the image's length then. */
        boolean unfold(Flash flash, int payloadLength, int base, int baseLength) {
            made = 0;
            int at = 0;
            while (at < payloadLength) {
                int kind = flash.at(STAGE + at);
                int inner = STAGE + at + 1;
                if (kind < FROM_BASE) {
                    int count = kind + 1;
                    at += 1 + count;
                    if (at > payloadLength || !take(flash, inner, count)) {
                        return false;
                    }
                } else {
                    int count = kind - FROM_BASE + 1;
                    at += 2;
                    if (at > payloadLength || !takeBase(flash, base, baseLength, flash.at(inner), count)) {
                        return false;
                    }
                }
            }
            return true;
        }

        private boolean takeBase(Flash flash, int base, int baseLength, int place, int count) {
            return place + count <= baseLength && take(flash, base + place, count);
        }

        /** False when there is no room: no image is as long. */
        private boolean take(Flash flash, int from, int count) {
            if (made + count > MOST) {
                return false;
            }
            for (int i = 0; i < count; i++) {
                image[made] = flash.at(from + i);
                made++;
            }
            return true;
        }
    }
}

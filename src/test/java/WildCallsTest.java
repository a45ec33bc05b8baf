import java.util.Random;

/** Long runs of calls, right and wrong ones, on FlashBoot and on the model; the seeds are fixed. */
public final class WildCallsTest {
    private static final int RUNS = 2000;
    /** No object is asked more than 512 times: these, a last step's, and a window of its flash. */
    private static final int CALLS = 340;
    private static final int WINDOW = 96;

    private final Random random;
    private final FlashBoot x = new FlashBoot(Device.KEY, Device.MORE, Device.VENDOR);
    private final Model model = new Model(Device.KEY, Device.MORE, Device.VENDOR);
    private final String run;
    private Update update = Update.whole(1, Device.FIRST);
    private int calls = 0;

    private WildCallsTest(int seed) {
        random = new Random(seed);
        run = "run " + seed;
    }

    public static void main(String[] args) {
        for (int seed = 0; seed < RUNS; seed++) {
            new WildCallsTest(seed).go();
        }
        Due.end();
    }

    private void go() {
        if (random.nextInt(8) > 0) {
            type(Bytes.image(1 + random.nextInt(192), random.nextInt(99)));
            same("factory(1)", model.factory(1), x.factory(1));
            same("boot()", model.boot(), x.boot());
        }
        while (calls < CALLS) {
            step();
        }
        int from = WINDOW * random.nextInt(Device.SIZE / WINDOW);
        for (int i = from; i < from + WINDOW; i++) {
            same("byteOf(" + i + ")", model.byteOf(i), x.byteOf(i));
        }
    }

    private void same(String call, int want, int got) {
        calls++;
        Due.is(run + ", call " + calls + ": " + call, want, got);
    }

    private void step() {
        switch (random.nextInt(16)) {
            case 0, 1, 2, 3 -> sendUpdate();
            case 4 -> sendManifest();
            case 5, 6 -> sendSomeBlocks();
            case 7 -> same("install()", model.install(), x.install());
            case 8, 9, 10 -> same("boot()", model.boot(), x.boot());
            case 11 -> same("confirm()", model.confirm(), x.confirm());
            case 12 -> sendFactory();
            case 13 -> setCrash();
            case 14 -> wildOne();
            default -> look();
        }
        same("running()", model.running(), x.running());
    }

    private void type(long bytes, int n) {
        same("type(" + bytes + ", " + n + ")", model.type(bytes, n), x.type(bytes, n));
    }

    private void type(int[] row) {
        for (int i = 0; i < row.length; i += 8) {
            int count = Math.min(8, row.length - i);
            long bytes = random.nextLong();
            for (int j = 0; j < count; j++) {
                bytes = bytes << 8 | row[i + j];
            }
            type(bytes, count);
        }
    }

    /** So that what comes next stands alone on the tape, mostly. */
    private void emptyTape() {
        if (random.nextInt(12) > 0) {
            same("manifest()", model.manifest(), x.manifest());
        }
    }

    private void sendUpdate() {
        sendManifest();
        sendSomeBlocks();
        same("install()", model.install(), x.install());
        for (int i = random.nextInt(4); i > 0; i--) {
            same("boot()", model.boot(), x.boot());
        }
    }

    private void sendManifest() {
        if (random.nextInt(4) > 0) {
            update = newUpdate();
        }
        emptyTape();
        type(update.manifest());
        same("manifest()", model.manifest(), x.manifest());
    }

    private int[] runningImage() {
        int slot = model.running();
        if (slot < 0) {
            return Device.FIRST;
        }
        int length = Math.min(192, model.byteOf(224 * slot + 192));
        return Bytes.part(model.flash, 224 * slot, length);
    }

    private Update newUpdate() {
        int[] base = runningImage();
        int[] image = {};
        int[] patch = {};
        int parts = 1 + random.nextInt(4);
        for (int i = 0; i < parts; i++) {
            boolean isLiteral = random.nextBoolean() || base.length == 0;
            int count = 1 + random.nextInt(isLiteral ? 12 : base.length);
            count = Math.min(count, 128);
            int place = isLiteral ? 0 : random.nextInt(base.length - count + 1);
            int[] part = isLiteral ? Bytes.image(count, random.nextInt(99)) : Bytes.part(base, place, count);
            if (image.length + count <= 192) {
                patch = Bytes.join(patch, isLiteral ? Bytes.literals(part) : Bytes.of(127 + count, place));
                image = Bytes.join(image, part);
            }
        }
        Update made = new Update(newSequence(), patch, image);
        if (random.nextInt(10) > 0) {
            made.on(base);
        }
        bend(made);
        return made;
    }

    private int newSequence() {
        int slot = model.running();
        int old = slot < 0 ? model.counter() : model.byteOf(224 * slot + 193);
        return Math.min(201, Math.max(0, old + random.nextInt(6) - (random.nextInt(4) == 0 ? 3 : -1)));
    }

    private void bend(Update made) {
        switch (random.nextInt(40)) {
            case 0 -> made.vendor = random.nextInt(256);
            case 1 -> made.tagFault = 1 << random.nextInt(32);
            case 2 -> made.payloadLength = random.nextInt(256);
            case 3 -> made.imageLength = random.nextInt(256);
            case 4 -> made.imageDigest ^= 1 << random.nextInt(32);
            case 5 -> made.payloadDigest ^= 1 << random.nextInt(32);
            case 6 -> made.baseDigest ^= 1 << random.nextInt(32);
            case 7 -> {
                made.payload[random.nextInt(made.payload.length)] = random.nextInt(256);
                made.payloadDigest = Bytes.digest(made.payload);
            }
            default -> { }
        }
    }

    private void sendSomeBlocks() {
        int from = random.nextInt(4) == 0 ? random.nextInt(12) : 0;
        emptyTape();
        for (int k = from; k < update.blocks() && random.nextInt(20) > 0; k++) {
            type(random.nextInt(40) == 0 ? Bytes.image(16, k) : update.block(k));
            same("block(" + k + ")", model.block(k), x.block(k));
        }
    }

    private void sendFactory() {
        if (random.nextInt(4) > 0 && model.running() >= 0) {
            return;
        }
        if (random.nextBoolean()) {
            emptyTape();
        }
        type(Bytes.image(random.nextInt(40), random.nextInt(99)));
        int sequence = random.nextInt(4) > 0 ? 1 + random.nextInt(20) : random.nextInt(203);
        same("factory(" + sequence + ")", model.factory(sequence), x.factory(sequence));
    }

    private void setCrash() {
        int n = random.nextInt(5) == 0 ? -1 : random.nextInt(random.nextBoolean() ? 8 : 90);
        int mask = random.nextInt(3) == 0 ? random.nextInt(3) * 255 / 2 : random.nextInt(258) - 1;
        same("crash(" + n + ", " + mask + ")", model.crash(n, mask), x.crash(n, mask));
    }

    private int wildInt() {
        int[] some = {0, 1, -1, 2, 12, 192, 255, 256, 768, Integer.MIN_VALUE, Integer.MAX_VALUE, random.nextInt()};
        return some[random.nextInt(some.length)];
    }

    private void wildOne() {
        int i = wildInt();
        int j = wildInt();
        switch (random.nextInt(7)) {
            case 0 -> type(random.nextLong(), i);
            case 1 -> same("factory(" + i + ")", model.factory(i), x.factory(i));
            case 2 -> same("block(" + i + ")", model.block(i), x.block(i));
            case 3 -> same("crash(" + i + ", " + j + ")", model.crash(i, j), x.crash(i, j));
            case 4 -> same("byteOf(" + i + ")", model.byteOf(i), x.byteOf(i));
            case 5 -> same("good(" + i + ")", model.good(i), x.good(i));
            default -> type(random.nextLong(), 1 + random.nextInt(8));
        }
    }

    private void look() {
        same("counter()", model.counter(), x.counter());
        same("acts()", model.acts(), x.acts());
        same("good(0)", model.good(0), x.good(0));
        same("good(1)", model.good(1), x.good(1));
        int i = random.nextInt(Device.SIZE);
        same("byteOf(" + i + ")", model.byteOf(i), x.byteOf(i));
    }
}

/** A FlashBoot and the ways to bring it somewhere; what is not due on the way is told. */
final class Device {
    static final int KEY = 0x81C2A3F4;
    static final int MORE = 0x7F00FF80;
    static final int VENDOR = 9;
    static final int SIZE = 768;
    static final int[] FIRST = Bytes.image(40, 1);

    final FlashBoot x;

    Device() {
        this(new FlashBoot(KEY, MORE, VENDOR));
    }

    Device(FlashBoot x) {
        this.x = x;
    }

    /** One whose factory image runs in slot 0. */
    static Device running(int sequence) {
        return running(sequence, FIRST);
    }

    static Device running(int sequence, int[] image) {
        Device device = new Device();
        device.type(image);
        Due.is("factory on the way", 1, device.x.factory(sequence));
        Due.is("boot on the way", 0, device.x.boot());
        return device;
    }

    Device type(int... row) {
        int i = 0;
        while (i < row.length) {
            int count = Math.min(8, row.length - i);
            long bytes = 0;
            for (int j = 0; j < count; j++) {
                bytes = bytes << 8 | row[i + j];
            }
            x.type(bytes, count);
            i += count;
        }
        return this;
    }

    /** The tape's length; one byte more is on it then, if there was room. */
    int tapeLength() {
        int more = x.type(0, 1);
        return more == FlashBoot.FULL ? 192 : more - 1;
    }

    int manifest(Update update) {
        return type(update.manifest()).x.manifest();
    }

    int block(Update update, int k) {
        return type(update.block(k)).x.block(k);
    }

    Device stage(Update update) {
        Due.is("manifest on the way", 0, manifest(update));
        for (int k = update.blocks() - 1; k >= 0; k--) {
            Due.is("block on the way", 1, block(update, k));
        }
        return this;
    }

    Device install(Update update) {
        stage(update);
        Due.is("install on the way", 1, x.install());
        return this;
    }

    void isState(String what, int running, int counter, int good0, int good1) {
        Due.is(what + ": running()", running, x.running());
        Due.is(what + ": counter()", counter, x.counter());
        Due.is(what + ": good(0)", good0, x.good(0));
        Due.is(what + ": good(1)", good1, x.good(1));
    }

    void areBytes(String what, int from, int... want) {
        for (int i = 0; i < want.length; i++) {
            Due.is(what + ": byteOf(" + (from + i) + ")", want[i], x.byteOf(from + i));
        }
    }
}

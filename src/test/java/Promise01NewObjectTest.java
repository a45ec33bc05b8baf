public final class Promise01NewObjectTest {
    public static void main(String[] args) {
        flashIsErased();
        nothingHasBeen();
        keyAndVendor();
        noCrashIsSet();
        objectsAreApart();
        Due.end();
    }

    private static void flashIsErased() {
        for (int from = 0; from < Device.SIZE; from += 256) {
            FlashBoot x = new FlashBoot(-1, 0, 255);
            for (int i = from; i < from + 256; i++) {
                Due.is("byteOf(" + i + ") of a new one", 255, x.byteOf(i));
            }
        }
    }

    private static void nothingHasBeen() {
        Device device = new Device();
        device.isState("new", FlashBoot.NONE, 0, 0, 0);
        Due.is("acts() of a new one", 0, device.x.acts());
        Due.is("manifest() of a new one: power is on", FlashBoot.BAD, device.x.manifest());
        Due.is("confirm() of a new one", FlashBoot.NONE, device.x.confirm());
        Due.is("install() of a new one", FlashBoot.NONE, device.x.install());
        Due.is("type() of a new one: the tape is empty", 1, device.x.type(7, 1));
    }

    private static int answer(int key, int more, int vendor, Update update) {
        Device device = new Device(new FlashBoot(key, more, vendor));
        device.type(Device.FIRST).x.factory(1);
        device.x.boot();
        return device.manifest(update);
    }

    private static void keyAndVendor() {
        Update update = Update.whole(2, Bytes.image(9, 2));
        int key = Device.KEY;
        int more = Device.MORE;
        Due.is("the right key", 0, answer(key, more, 9, update));
        Due.is("more of the vendor's bits", 0, answer(key, more, 0x12309, update));
        Due.is("a vendor below 0", 0, answer(key, more, 9 - 256, update));
        Due.is("another vendor", FlashBoot.TAG, answer(key, more, 8, update));
        Due.is("the halves of the key turned", FlashBoot.TAG, answer(more, key, 9, update));
        for (int bit = 0; bit < 32; bit++) {
            Due.is("key, bit " + bit, FlashBoot.TAG, answer(key ^ 1 << bit, more, 9, update));
            Due.is("more, bit " + bit, FlashBoot.TAG, answer(key, more ^ 1 << bit, 9, update));
        }
        update.vendor = 255;
        Due.is("the vendor 255", 0, answer(key, more, -1, update));
        update.vendor = 0;
        Due.is("the vendor 0", 0, answer(key, more, 256, update));
    }

    private static void noCrashIsSet() {
        Device device = Device.running(1);
        device.install(Update.whole(2, Bytes.image(190, 2)));
        Due.is("boot() of the update", 1, device.x.boot());
    }

    private static void objectsAreApart() {
        Device one = Device.running(1);
        Device other = new Device();
        one.type(1, 2, 3);
        other.isState("the other", FlashBoot.NONE, 0, 0, 0);
        Due.is("the other's tape", 0, other.tapeLength());
        other.x.crash(0, 0);
        one.isState("the one", 0, 0, 1, 0);
        Due.is("the one's factory()", 1, one.x.factory(4));
    }
}

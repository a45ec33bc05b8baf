public final class Promise14GoodTest {
    private static final int[] NEXT = Bytes.image(20, 2);

    public static void main(String[] args) {
        slots();
        notWhole();
        wrongLength();
        wrongDigest();
        lessThanTheCounter();
        withoutPower();
        Due.end();
    }

    private static void slots() {
        Device device = new Device();
        for (int slot : new int[] {-1, 2, 3, 256, Integer.MIN_VALUE, Integer.MAX_VALUE}) {
            Due.is("good(" + slot + ")", FlashBoot.BAD, device.x.good(slot));
        }
        device.isState("new", FlashBoot.NONE, 0, 0, 0);
        device.type(Device.FIRST).x.factory(1);
        device.isState("factory", FlashBoot.NONE, 0, 1, 0);
        device.x.boot();
        device.install(Update.whole(2, NEXT));
        device.isState("install", 0, 0, 1, 1);
    }

    private static void notWhole() {
        for (int mask : new int[] {1, 128, 255}) {
            Device device = new Device().type(Device.FIRST);
            device.x.crash(55, mask);
            device.x.factory(1);
            device.areBytes("the torn byte", 200, mask);
            Due.is("torn at byte 8 with " + mask, 0, device.x.good(0));
        }
        Device whole = new Device().type(Device.FIRST);
        whole.x.crash(55, 0);
        Due.is("torn at byte 8 with 0", FlashBoot.OFF, whole.x.factory(1));
        Due.is("it is whole all the same", 1, whole.x.good(0));
        Due.is("boot", 0, whole.x.boot());
    }

    private static void tear(Device device, int n, int mask) {
        device.x.crash(n, mask);
        Due.is("torn factory", FlashBoot.OFF, device.type(1).x.factory(1));
    }

    /** Of the header the length alone is erased, and 255 is none. */
    private static void wrongLength() {
        int[] image = Bytes.of(255);
        Device device = Device.running(1, image);
        tear(device, 6, 1);
        device.areBytes("the header", 192, 255, 1);
        Due.is("length 255", 0, device.x.good(0));
        Due.is("boot", FlashBoot.NONE, device.x.boot());
    }

    private static void wrongDigest() {
        for (int page = 0; page < 6; page++) {
            int[] image = Bytes.image(192, 0);
            java.util.Arrays.fill(image, 0, 32 * page, 255);
            image[32 * page] = 5;
            Device device = Device.running(1, image);
            tear(device, page, 0);
            Due.is("what was 255 is erased", 1, device.x.good(0));
            device.x.boot();
            tear(device.type(), 0, 0);
            device.x.boot();
            tear(device, page, 1);
            Due.is("a byte of page " + page + " is erased", 0, device.x.good(0));
            Due.is("boot", FlashBoot.NONE, device.x.boot());
        }
        Device torn = Device.running(1, Bytes.image(20, 0));
        tear(torn, 1, 0);
        Due.is("the image's page is erased", 0, torn.x.good(0));
        Device behind = Device.running(1, Bytes.join(Bytes.image(20, 0), Bytes.of(255, 255)));
        tear(behind, 0, 20);
        Due.is("20 bytes are erased", 0, behind.x.good(0));
    }

    private static void lessThanTheCounter() {
        for (int torn = 1; torn < 8; torn++) {
            Device device = Device.running(3);
            device.install(Update.whole(7, NEXT));
            device.x.boot();
            device.x.crash(torn, 255);
            device.x.confirm();
            device.isState("counter " + (torn - 1), FlashBoot.NONE, torn - 1, torn - 1 <= 3 ? 1 : 0, 1);
        }
        Device device = Device.running(3);
        device.install(Update.whole(7, NEXT));
        device.x.boot();
        device.x.confirm();
        device.isState("confirmed", 1, 7, 0, 1);
    }

    private static void withoutPower() {
        Device device = Device.running(3);
        device.x.crash(0, 0);
        device.type(1).x.factory(1);
        Due.is("good(0) without power", 1, device.x.good(0));
        Due.is("good(1) without power", 0, device.x.good(1));
        Due.is("good(2) without power", FlashBoot.BAD, device.x.good(2));
    }
}

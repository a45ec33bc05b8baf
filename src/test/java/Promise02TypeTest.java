public final class Promise02TypeTest {
    public static void main(String[] args) {
        lengths();
        wrongCounts();
        order();
        full();
        withoutPower();
        Due.end();
    }

    private static void lengths() {
        FlashBoot x = new FlashBoot(1, 2, 3);
        int length = 0;
        for (int n = 1; n <= 8; n++) {
            length += n;
            Due.is("type of " + n, length, x.type(-1L, n));
        }
    }

    private static void wrongCounts() {
        FlashBoot x = new FlashBoot(1, 2, 3);
        x.type(5, 2);
        for (int n : new int[] {0, 9, -1, 10, 100, Integer.MIN_VALUE, Integer.MAX_VALUE}) {
            Due.is("type of " + n, FlashBoot.BAD, x.type(5, n));
        }
        Due.is("type behind wrong ones", 3, x.type(5, 1));
    }

    private static void order() {
        Device device = new Device();
        device.x.type(0x8182838485868788L, 8);
        device.x.type(0x1112131415161718L, 3);
        device.x.type(-2, 1);
        device.x.type(0x7F00FF01L, 4);
        device.x.type(-1, 2);
        device.x.factory(1);
        device.areBytes("what was typed", 0, 0x81, 0x82, 0x83, 0x84, 0x85, 0x86, 0x87, 0x88,
            0x16, 0x17, 0x18, 0xFE, 0x7F, 0, 0xFF, 1, 255, 255);
        Due.is("its length", 18, device.x.byteOf(192));
    }

    private static void full() {
        Device device = new Device();
        device.type(Bytes.image(190, 3));
        Due.is("type over the end", FlashBoot.FULL, device.x.type(0, 3));
        Due.is("type over the end", FlashBoot.FULL, device.x.type(0, 8));
        Due.is("type(0, 9) when it is near full", FlashBoot.BAD, device.x.type(0, 9));
        Due.is("type to the end", 192, device.x.type(0x0102, 2));
        Due.is("type behind the end", FlashBoot.FULL, device.x.type(0, 1));
        Due.is("type(0, 0) when it is full", FlashBoot.BAD, device.x.type(0, 0));
        Due.is("factory of the full tape", 1, device.x.factory(1));
        device.areBytes("the full tape", 0, Bytes.join(Bytes.image(190, 3), Bytes.of(1, 2)));
        Due.is("type on the tape that is empty again", 8, device.x.type(0, 8));
    }

    private static void withoutPower() {
        Device device = new Device();
        device.x.crash(0, 0);
        device.type(1, 2, 3);
        device.x.factory(1);
        Due.is("type without power", 2, device.x.type(0x2122, 2));
        Due.is("wrong type without power", FlashBoot.BAD, device.x.type(0x2122, 9));
        Device full = new Device();
        full.x.crash(0, 0);
        full.type(1).x.factory(1);
        full.type(Bytes.image(191, 3));
        Due.is("type over the end without power", FlashBoot.FULL, full.x.type(0, 2));
        Due.is("type to the end without power", 192, full.x.type(0, 1));
        Due.is("type behind the end without power", FlashBoot.FULL, full.x.type(0, 1));
        device.x.boot();
        Due.is("factory of what was typed without power", 1, device.x.factory(1));
        device.areBytes("what was typed without power", 0, 0x21, 0x22, 255);
    }
}

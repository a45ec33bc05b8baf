public final class Promise09CrashTest {
    public static void main(String[] args) {
        masks();
        wrongOneChangesNothing();
        replaced();
        unset();
        countsOverCalls();
        cameAndIsGone();
        withoutPower();
        stillOne();
        Due.end();
    }

    private static void masks() {
        FlashBoot x = new FlashBoot(1, 2, 3);
        for (int n : new int[] {0, 1, 1000, Integer.MAX_VALUE, -1, Integer.MIN_VALUE}) {
            Due.is("crash(" + n + ", 0)", 1, x.crash(n, 0));
            Due.is("crash(" + n + ", 255)", 1, x.crash(n, 255));
            for (int mask : new int[] {-1, 256, 511, Integer.MIN_VALUE, Integer.MAX_VALUE}) {
                Due.is("crash(" + n + ", " + mask + ")", FlashBoot.BAD, x.crash(n, mask));
            }
        }
    }

    private static int factory(Device device) {
        return device.type(1, 2, 3).x.factory(1);
    }

    private static void wrongOneChangesNothing() {
        Device device = new Device();
        device.x.crash(2, 0);
        Due.is("wrong crash", FlashBoot.BAD, device.x.crash(100, 256));
        Due.is("wrong unset", FlashBoot.BAD, device.x.crash(-1, -1));
        Due.is("the one that was set", FlashBoot.OFF, factory(device));
        Due.is("acts()", 3, device.x.acts());
    }

    private static void replaced() {
        Device device = new Device();
        device.x.crash(2, 0);
        device.x.crash(8, 0x40);
        Due.is("the later crash", FlashBoot.OFF, factory(device));
        Due.is("acts()", 9, device.x.acts());
        device.areBytes("its mask", 0, 0x41, 255);
    }

    private static void unset() {
        Device device = new Device();
        device.x.crash(2, 0);
        Due.is("unset", 1, device.x.crash(-1, 0));
        Due.is("no crash", 1, factory(device));
        device.x.crash(2, 0);
        device.x.crash(Integer.MIN_VALUE, 255);
        Due.is("no crash", 1, factory(device));
        device.x.crash(Integer.MAX_VALUE, 255);
        Due.is("a crash that is far", 1, factory(device));
    }

    private static void countsOverCalls() {
        Device device = new Device();
        device.x.crash(19 + 28 + 1 + 19, 0);
        Due.is("factory", 1, factory(device));
        Due.is("boot", 0, device.x.boot());
        Due.is("manifest", 0, device.manifest(Update.whole(2, Bytes.image(20, 2))));
        Due.is("boot does not unset it", 0, device.x.boot());
        device.type(9).x.factory(0);
        device.x.boot();
        Due.is("a wrong call counts nothing", 1, device.x.type(0, 1) > 0 ? 1 : 0);
        Due.is("factory of two bytes", 1, device.x.factory(1));
        Due.is("acts()", 19 + 28 + 18, device.x.acts());
        Due.is("two acts behind", FlashBoot.OFF, factory(device));
        Due.is("acts()", 19 + 28 + 1 + 19 + 1, device.x.acts());
    }

    private static void cameAndIsGone() {
        Device device = new Device();
        device.x.crash(0, 0);
        Due.is("torn", FlashBoot.OFF, factory(device));
        Due.is("off", FlashBoot.OFF, factory(device));
        device.x.boot();
        Due.is("not again", 1, device.x.factory(1));
        Due.is("acts()", 1 + 19, device.x.acts());
    }

    private static void withoutPower() {
        Device device = new Device();
        device.x.crash(0, 0);
        factory(device);
        Due.is("crash without power", 1, device.x.crash(1, 0));
        Due.is("wrong crash without power", FlashBoot.BAD, device.x.crash(1, 256));
        Due.is("it brings no power", FlashBoot.OFF, factory(device));
        device.x.boot();
        Due.is("the one set without power", FlashBoot.OFF, device.x.factory(1));
        Due.is("acts()", 1 + 2, device.x.acts());
    }

    /** Setting one goes on neither with the count nor with the mask of another. */
    private static void stillOne() {
        Device device = new Device();
        device.x.crash(5, 255);
        device.x.crash(10, 0);
        Due.is("torn", FlashBoot.OFF, factory(device));
        device.areBytes("the torn byte", 2, 3);
        Due.is("acts()", 11, device.x.acts());
    }
}

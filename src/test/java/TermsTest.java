/** The edges that stand under Terms, where no promise of their own tells them. */
public final class TermsTest {
    private static final int OFF = FlashBoot.OFF;
    private static final int[] NEXT = Bytes.image(20, 2);
    /** Its digest is 0. */
    static final int[] NOUGHT = Bytes.of(252, 201, 96, 0, 7);

    public static void main(String[] args) {
        digests();
        slotsAreFilled();
        tornErasure();
        tornProgramming();
        tornProgrammingOfWhatIsNotErased();
        crashEdges();
        offBehindEachCall();
        lastCallOfAll();
        Due.end();
    }

    /** Reckoned by hand and by another program, not by Bytes. */
    private static void digests() {
        digest(Bytes.of(0), 0, 0, 0, 97);
        digest(Bytes.of(0, 97), 0, 0, 0, 97);
        digest(Bytes.of(1), 0x80, 0, 0xC9, 0xE1);
        digest(Bytes.of(255), 0x80, 0xC8, 0xB7, 0x60);
        digest(Bytes.of(1, 2, 3, 4, 5, 6, 7, 8, 9), 0x23, 0xF1, 0x30, 0xAB);
        digest(NOUGHT, 0, 0, 0, 0);
    }

    private static void digest(int[] image, int... want) {
        Device device = new Device().type(image);
        device.x.factory(1);
        device.areBytes("the digest of " + image.length + " bytes", 194, want);
        Due.is("good(0)", 1, device.x.good(0));
    }

    /** Two objects, as one is not asked more than 512 times. */
    private static void slotsAreFilled() {
        int[] low = Bytes.image(192, 4);
        int[] high = Bytes.join(Bytes.part(low, 64, 128), Bytes.part(low, 0, 64));
        Update update = new Update(2, Bytes.of(255, 64, 128 + 63, 0), high).on(low);
        Device one = Device.running(1, low).install(update);
        one.areBytes("slot 0", 0, low);
        one.areBytes("slot 0's header", 192, 192, 1);
        Device other = Device.running(1, low).install(update);
        other.areBytes("slot 1", 224, high);
        other.areBytes("slot 1's header", 416, 192, 2);
        other.isState("both are full", 0, 0, 1, 1);
    }

    /** The first mask modulo 32 bytes of a page: none for 0, 32, .. 224, and never all of them. */
    private static void tornErasure() {
        int[] image = Bytes.image(64, 4);
        for (int mask = 0; mask < 256; mask++) {
            Device device = Device.running(1, image).type(1);
            device.x.crash(1, mask);
            Due.is("torn factory", OFF, device.x.factory(1));
            for (int i = 0; i < 32; i++) {
                int want = i < mask % 32 ? 255 : image[32 + i];
                Due.is("byte " + i + " of a page torn with " + mask, want, device.x.byteOf(32 + i));
            }
            Due.is("the page before", 255, device.x.byteOf(31));
            Due.is("the page behind", 255, device.x.byteOf(64));
        }
    }

    private static void tornProgramming() {
        for (int mask = 0; mask < 256; mask++) {
            Device device = new Device().type(0xA5, 0x3C);
            device.x.crash(8, mask);
            Due.is("torn factory", OFF, device.x.factory(1));
            device.areBytes("torn with " + mask, 0, 0xA5 | mask, 255);
        }
    }

    /** What has become 0 stays 0, whatever the mask. */
    private static void tornProgrammingOfWhatIsNotErased() {
        for (int mask = 0; mask < 256; mask++) {
            Device device = Device.running(1);
            device.install(Update.whole(2, NEXT));
            device.x.boot();
            device.x.crash(0, 0x6D);
            Due.is("torn confirm", OFF, device.x.confirm());
            device.areBytes("torn once", 423, 0x6D);
            device.x.crash(0, mask);
            Due.is("torn boot", OFF, device.x.boot());
            device.areBytes("trials torn with " + mask, 422, 12 | mask & 2);
            device.x.boot();
            device.x.crash(0, mask);
            Due.is("confirm again", OFF, device.x.confirm());
            device.areBytes("torn with " + mask + " then", 423, 0x6D & mask);
        }
    }

    /** Behind a crash that came the second call is OFF, too; else the crash comes in it. */
    private static void crashEdges() {
        for (int n = 0; n < 24; n++) {
            Device device = new Device().type(1, 2, 3);
            device.x.crash(n, 0);
            Due.is("factory of 19 acts, crash behind " + n, n < 19 ? OFF : 1, device.x.factory(1));
            Due.is("its acts", Math.min(19, n + 1), device.x.acts());
            device.type(1, 2, 3);
            Due.is("factory again, crash behind " + n, OFF, device.x.factory(1));
            Due.is("all acts", n + 1, device.x.acts());
        }
    }

    private static void offBehindEachCall() {
        off("factory()", new Device().type(1), 1);
        off("manifest()", Device.running(1).type(Update.whole(2, NEXT).manifest()), 2);
        Device block = Device.running(1);
        block.manifest(Update.whole(2, NEXT));
        off("block()", block.type(Update.whole(2, NEXT).block(0)), 3);
        off("install()", Device.running(1).stage(Update.whole(2, NEXT)), 4);
        Device boot = Device.running(1);
        boot.install(Update.whole(2, NEXT));
        off("boot()", boot, 5);
        Device confirm = Device.running(1);
        confirm.install(Update.whole(2, NEXT));
        confirm.x.boot();
        off("confirm()", confirm, 6);
    }

    private static int call(FlashBoot x, int which) {
        return switch (which) {
            case 1 -> x.factory(1);
            case 2 -> x.manifest();
            case 3 -> x.block(0);
            case 4 -> x.install();
            case 5 -> x.boot();
            default -> x.confirm();
        };
    }

    /** All but boot() are OFF then, and leave tape and flash; what is not OFF goes on. */
    private static void off(String what, Device device, int which) {
        FlashBoot x = device.x;
        x.crash(0, 255);
        Due.is("torn " + what, OFF, call(x, which));
        Due.is("running() behind torn " + what, FlashBoot.NONE, x.running());
        int tape = device.tapeLength() + 1;
        int acts = x.acts();
        for (int other = 1; other <= 6; other++) {
            if (other != 5) {
                Due.is("call " + other + " behind torn " + what, OFF, call(x, other));
            }
        }
        Due.is("crash() behind torn " + what, 1, x.crash(-1, 0));
        Due.is("acts() behind torn " + what, acts, x.acts());
        Due.is("the tape behind torn " + what, tape, device.tapeLength());
        Due.is("running() without power", FlashBoot.NONE, x.running());
        Due.is("manifest() still without power", OFF, x.manifest());
        x.boot();
        Due.is("manifest() of a wrong tape with power", FlashBoot.BAD, x.manifest());
    }

    /** Calls to the very end of what is promised: 512 of them. */
    private static void lastCallOfAll() {
        FlashBoot x = new FlashBoot(1, 2, 3);
        int calls = 0;
        while (calls + 25 <= 511) {
            for (int i = 1; i <= 24; i++) {
                Due.is("type", 8 * i, x.type(calls, 8));
            }
            Due.is("factory", 1, x.factory(200));
            calls += 25;
        }
        Due.is("boot", 0, x.boot());
        calls++;
        while (calls < 511) {
            Due.is("good(0)", 1, x.good(0));
            calls++;
        }
        Due.is("acts() as the 512th call", 20 * 208, x.acts());
    }
}

public final class Promise11CounterTest {
    public static void main(String[] args) {
        for (int sequence : new int[] {2, 7, 8, 9, 16, 17, 100, 200}) {
            Device device = Device.running(1);
            device.install(Update.whole(sequence, Bytes.image(20, 2)));
            device.x.boot();
            Due.is("counter() before confirm", 0, device.x.counter());
            device.x.confirm();
            Due.is("counter() behind confirm", sequence, device.x.counter());
        }
        withoutPower();
        tornErasure();
        Due.end();
    }

    private static void withoutPower() {
        Device device = Device.running(1);
        device.install(Update.whole(20, Bytes.image(20, 2)));
        device.x.boot();
        device.x.crash(13, 255);
        Due.is("torn confirm", FlashBoot.OFF, device.x.confirm());
        Due.is("counter() without power", 12, device.x.counter());
    }

    /** Bits come back byte by byte; what is left is counted, wherever it stands. */
    private static void tornErasure() {
        Device device = Device.running(1);
        device.install(Update.whole(40, Bytes.image(20, 2)));
        device.x.boot();
        device.x.confirm();
        device.x.crash(7, 3);
        device.type(1).x.factory(1);
        device.areBytes("the counter's page", 704, 255, 255, 255, 0, 0, 255);
        Due.is("counter() behind a torn erasure", 16, device.x.counter());
        device.x.boot();
        device.install(Update.whole(45, Bytes.image(21, 3)));
        Due.is("boot", 0, device.x.boot());
        Due.is("confirm", 1, device.x.confirm());
        device.areBytes("the counter's page", 704, 0, 0, 0, 0, 0, 0xE0, 255);
        Due.is("counter()", 45, device.x.counter());
    }
}

public final class Promise10RunningTest {
    public static void main(String[] args) {
        Device device = new Device();
        Due.is("new", FlashBoot.NONE, device.x.running());
        device.type(Device.FIRST).x.factory(1);
        Due.is("factory", FlashBoot.NONE, device.x.running());
        device.x.boot();
        Due.is("boot", 0, device.x.running());
        device.install(Update.whole(2, Bytes.image(20, 2)));
        Due.is("install", 0, device.x.running());
        device.x.boot();
        Due.is("trial boot", 1, device.x.running());
        device.x.confirm();
        Due.is("confirm", 1, device.x.running());
        device.type(1, 2).x.manifest();
        Due.is("wrong manifest", 1, device.x.running());
        device.x.factory(1);
        Due.is("wrong factory", 1, device.x.running());
        device.type(1).x.crash(0, 0);
        device.x.factory(1);
        Due.is("without power", FlashBoot.NONE, device.x.running());
        device.x.boot();
        Due.is("boot again", 1, device.x.running());
        Due.end();
    }
}

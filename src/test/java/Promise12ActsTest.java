public final class Promise12ActsTest {
    public static void main(String[] args) {
        Device device = new Device();
        Due.is("new", 0, device.x.acts());
        device.type(Device.FIRST);
        Due.is("type", 0, device.x.acts());
        device.x.factory(1);
        Due.is("factory", 56, device.x.acts());
        device.x.boot();
        Due.is("boot", 56, device.x.acts());
        Update update = Update.whole(5, Bytes.image(20, 2));
        device.manifest(update);
        Due.is("manifest", 84, device.x.acts());
        device.block(update, 1);
        Due.is("last block", 90, device.x.acts());
        device.block(update, 0);
        Due.is("block", 107, device.x.acts());
        device.x.install();
        Due.is("install", 107 + 7 + 20 + 6 + 2 + 1, device.x.acts());
        device.x.boot();
        Due.is("trial boot", 144, device.x.acts());
        device.x.crash(2, 0);
        device.x.confirm();
        Due.is("torn confirm", 147, device.x.acts());
        device.x.confirm();
        device.type(1).x.factory(1);
        Due.is("without power", 147, device.x.acts());
        device.x.boot();
        device.type(1).x.factory(201);
        device.x.manifest();
        device.x.good(0);
        device.x.byteOf(3);
        Due.is("calls that do none", 147, device.x.acts());
        Due.end();
    }
}

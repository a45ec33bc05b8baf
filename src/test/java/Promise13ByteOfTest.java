public final class Promise13ByteOfTest {
    public static void main(String[] args) {
        Device device = Device.running(200);
        for (int i : new int[] {-1, 768, 769, -768, 1 << 20, Integer.MIN_VALUE, Integer.MAX_VALUE}) {
            Due.is("byteOf(" + i + ")", FlashBoot.BAD, device.x.byteOf(i));
        }
        Due.is("byteOf(767)", 255, device.x.byteOf(767));
        device.areBytes("the image", 0, Bytes.join(Device.FIRST, Bytes.of(255)));
        device.areBytes("the header", 192, Bytes.join(Bytes.of(40, 200),
            Bytes.word(Bytes.digest(Device.FIRST)), Bytes.of(255, 0, 0, 255)));
        device.x.crash(0, 0);
        device.type(1).x.factory(1);
        device.areBytes("without power", 0, Device.FIRST);
        Due.end();
    }
}

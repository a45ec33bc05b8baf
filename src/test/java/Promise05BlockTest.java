public final class Promise05BlockTest {
    private static final int[] NEXT = Bytes.image(20, 2);
    private static final Update LONG = Update.whole(2, Bytes.image(190, 2));
    private static final Update SHORT = Update.whole(2, NEXT);

    public static void main(String[] args) {
        everyAct();
        anyOrder();
        withoutManifest();
        noSuchBlock();
        wrongLengths();
        tape();
        blockAgain();
        oldOnes();
        shortestAndLongest();
        otherBytesOverTornOnes();
        refused();
        withoutPower();
        Due.end();
    }

    private static void everyAct() {
        for (int k : new int[] {0, 1, 11}) {
            new Sweep("block(" + k + ")", () -> {
                Device device = Device.running(1);
                device.manifest(LONG);
                return device.type(LONG.block(k));
            }, x -> x.block(k)).isDue(1, new Acts().program(448 + 16 * k, LONG.block(k)).program(672 + k, 0));
        }
        new Sweep("the last block", () -> {
            Device device = Device.running(1);
            device.manifest(SHORT);
            return device.type(SHORT.block(1));
        }, x -> x.block(1)).isDue(1, new Acts().program(464, SHORT.block(1)).program(673, 0));
    }

    private static void anyOrder() {
        Device device = Device.running(1);
        device.manifest(LONG);
        for (int i = 0; i < 12; i++) {
            int k = i * 5 % 12;
            Due.is("install before block " + k, FlashBoot.LACKS, device.x.install());
            Due.is("block " + k, 1, device.block(LONG, k));
        }
        device.areBytes("the stage", 448, LONG.payload);
        Due.is("install behind all", 1, device.x.install());
    }

    private static void withoutManifest() {
        Device device = Device.running(1);
        Due.is("no manifest", FlashBoot.BAD, device.block(LONG, 0));
        Due.is("the tape behind it", 16, device.tapeLength());

        Device torn = Device.running(1);
        torn.x.crash(27, 255);
        torn.manifest(LONG);
        torn.x.boot();
        torn.type(LONG.block(0));
        Due.is("a manifest whose last byte is not there", FlashBoot.BAD, torn.x.block(0));

        Device taken = Device.running(1);
        taken.install(LONG);
        Due.is("the manifest is taken", FlashBoot.BAD, taken.block(LONG, 0));
    }

    private static void noSuchBlock() {
        for (int length : new int[] {1, 2, 15, 16, 17, 31, 32, 33, 191, 192}) {
            int[] payload = Bytes.image(length, 8);
            Update update = new Update(2, payload, Bytes.image(20, 2));
            Device device = Device.running(1);
            device.manifest(update);
            device.type(update.block(update.blocks() - 1));
            for (int k : new int[] {-1, update.blocks(), 12, 13, 255, 1 << 28, Integer.MIN_VALUE, Integer.MAX_VALUE}) {
                Due.is("payload of " + length + ": block(" + k + ")", FlashBoot.BAD, device.x.block(k));
            }
            Due.is("payload of " + length + ": last block", 1, device.x.block(update.blocks() - 1));
            Due.is("no tape for no block", FlashBoot.BAD, device.x.block(update.blocks()));
        }
    }

    private static void wrongLengths() {
        for (int length = 0; length <= 17; length++) {
            Device device = Device.running(1);
            device.manifest(SHORT);
            device.type(Bytes.image(length, 3));
            int acts = device.x.acts();
            if (length != 16) {
                Due.is(length + " bytes for a block", FlashBoot.BAD, device.x.block(0));
            }
            if (length != 5) {
                Due.is(length + " bytes for the last block of 5", FlashBoot.BAD, device.x.block(1));
            }
            Due.is("acts() of wrong ones", acts, device.x.acts());
            Due.is("the tape of a wrong one", length, device.tapeLength());
        }
        Device device = Device.running(1);
        device.manifest(SHORT);
        device.type(SHORT.block(1));
        Due.is("the last block", 1, device.x.block(1));
        device.type(1, 2, 3);
        Due.is("a wrong length for one that is there", FlashBoot.BAD, device.x.block(1));
    }

    private static void tape() {
        Device device = Device.running(1);
        device.manifest(LONG);
        device.block(LONG, 4);
        Due.is("the tape behind a block", 0, device.tapeLength());
        for (int n = 0; n < 17; n++) {
            device = Device.running(1);
            device.manifest(LONG);
            device.x.crash(n, 0);
            Due.is("torn behind " + n, FlashBoot.OFF, device.block(LONG, 4));
            Due.is("the tape behind one torn behind " + n, 0, device.tapeLength());
        }
    }

    private static void blockAgain() {
        Device device = Device.running(1);
        device.manifest(LONG);
        device.block(LONG, 4);
        int acts = device.x.acts();
        Due.is("a block that is there", 0, device.type(Bytes.image(16, 77)).x.block(4));
        Due.is("the tape behind it", 0, device.tapeLength());
        Due.is("acts() of one that is there", acts, device.x.acts());
        device.areBytes("what was there", 448 + 64, LONG.block(4));

        Device torn = Device.running(1);
        torn.manifest(LONG);
        torn.x.crash(16, 128);
        Due.is("torn at the map", FlashBoot.OFF, torn.block(LONG, 4));
        torn.x.boot();
        Due.is("the map's byte", 128, torn.x.byteOf(676));
        Due.is("a block that is not marked whole", 1, torn.block(LONG, 4));
        Due.is("a block that is marked now", 0, torn.block(LONG, 4));
    }

    private static void oldOnes() {
        Device device = Device.running(1);
        device.manifest(LONG);
        device.type(Device.FIRST).x.factory(2);
        Due.is("nothing runs", 1, device.block(LONG, 0));
        device.x.boot();
        Due.is("what runs is not less", 1, device.block(LONG, 1));
        Due.is("install of the old one", FlashBoot.OLD, device.x.install());
        Due.is("block of the old one that is there", 0, device.block(LONG, 1));
    }

    /** A payload of one byte has one block, and one of 192 has twelve of sixteen. */
    private static void shortestAndLongest() {
        Update least = new Update(2, Bytes.of(7), NEXT);
        new Sweep("block(0) of one byte", () -> {
            Device device = Device.running(1);
            device.manifest(least);
            return device.type(7);
        }, x -> x.block(0)).isDue(1, new Acts().program(448, 7).program(672, 0));
        Update most = new Update(2, Bytes.image(192, 3), NEXT);
        new Sweep("block(11) of 192 bytes", () -> {
            Device device = Device.running(1);
            device.manifest(most);
            return device.type(most.block(11));
        }, x -> x.block(11)).isDue(1, new Acts().program(624, most.block(11)).program(683, 0));
    }

    /** The stage is not erased for a block: what a torn one left goes into the next one. */
    private static void otherBytesOverTornOnes() {
        int[] first = Bytes.image(16, 5);
        int[] second = Bytes.image(16, 6);
        new Sweep("block(0) over a torn one", () -> {
            Device device = Device.running(1);
            device.manifest(LONG);
            device.x.crash(9, 0x3C);
            Due.is("torn block on the way", FlashBoot.OFF, device.type(first).x.block(0));
            device.x.boot();
            return device.type(second);
        }, x -> x.block(0)).isDue(1, new Acts().program(448, second).program(672, 0));

        Device device = Device.running(1);
        device.manifest(SHORT);
        device.x.crash(16, 255);
        Due.is("torn at the map", FlashBoot.OFF, device.type(Bytes.image(16, 77)).x.block(0));
        device.x.boot();
        Due.is("the right block over a wrong one", 1, device.block(SHORT, 0));
        for (int i = 0; i < 16; i++) {
            device.areBytes("of both", 448 + i, Bytes.image(16, 77)[i] & SHORT.payload[i]);
        }
        device.block(SHORT, 1);
        Due.is("install of both at once", FlashBoot.WRONG, device.x.install());
        Due.is("the same manifest erases nothing", 1, device.manifest(SHORT));
        Due.is("install still", FlashBoot.WRONG, device.x.install());
    }

    private static Device partly(int... row) {
        Device device = Device.running(1);
        device.manifest(SHORT);
        device.block(SHORT, 0);
        return device.type(row);
    }

    private static void refused() {
        int[] row = SHORT.block(0);
        new Sweep("no manifest", () -> Device.running(1).type(row), x -> x.block(0)).isRefused(FlashBoot.BAD);
        new Sweep("block(-1)", () -> partly(row), x -> x.block(-1)).isRefused(FlashBoot.BAD);
        new Sweep("block(2)", () -> partly(row), x -> x.block(2)).isRefused(FlashBoot.BAD);
        new Sweep("no tape", () -> partly(), x -> x.block(0)).isRefused(FlashBoot.BAD);
        new Sweep("too long for the last", () -> partly(row), x -> x.block(1)).isRefused(FlashBoot.BAD);
        new Sweep("it was there", () -> partly(Bytes.image(16, 9)), x -> x.block(0)).isRefused(0);
    }

    private static void withoutPower() {
        Device device = Device.running(1);
        device.manifest(SHORT);
        device.x.crash(0, 255);
        device.block(SHORT, 0);
        device.type(SHORT.block(1));
        Due.is("block without power", FlashBoot.OFF, device.x.block(1));
        Due.is("no such block without power", FlashBoot.OFF, device.x.block(-1));
        device.x.boot();
        Due.is("the tape stayed", 1, device.x.block(1));
    }
}

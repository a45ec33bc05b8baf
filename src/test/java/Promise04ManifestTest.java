public final class Promise04ManifestTest {
    private static final int[] NEXT = Bytes.image(20, 2);

    public static void main(String[] args) {
        everyAct();
        wrongLengths();
        ranges();
        tags();
        sequences();
        orderOfAnswers();
        sameAgain();
        sameAgainBehindATearing();
        anotherOne();
        refused();
        tape();
        withoutPower();
        Due.end();
    }

    static Acts acts(Update update) {
        return new Acts().erase(21, 20, 14, 15, 16, 17, 18, 19).program(640, update.manifest());
    }

    private static void everyAct() {
        Update update = Update.whole(2, NEXT);
        new Sweep("manifest()", () -> Device.running(1).type(update.manifest()), FlashBoot::manifest)
            .isDue(0, acts(update));
        Update old = Update.whole(3, Bytes.image(190, 3));
        new Sweep("manifest() over another one", () -> Device.running(1).stage(old).type(update.manifest()),
            FlashBoot::manifest).isDue(0, acts(update));
    }

    private static void wrongLengths() {
        int[] row = Update.whole(2, NEXT).manifest();
        for (int length : new int[] {0, 1, 19, 21, 40, 192}) {
            Device device = Device.running(1);
            for (int i = 0; i < length; i++) {
                device.x.type(row[i % 20], 1);
            }
            Due.is("manifest of " + length + " bytes", FlashBoot.BAD, device.x.manifest());
            Due.is("the tape behind it", 0, device.tapeLength());
        }
    }

    private static void told(String what, int want, Update update) {
        Device device = Device.running(1);
        int acts = device.x.acts();
        Due.is(what, want, device.manifest(update));
        Due.is(what + ": acts()", acts + (want == 0 ? 28 : 0), device.x.acts());
        Due.is(what + ": the tape behind it", 0, device.tapeLength());
        device.isState(what, 0, 0, 1, 0);
    }

    private static void ranges() {
        for (int value = 0; value < 256; value++) {
            Update update = Update.whole(2, NEXT);
            update.payloadLength = value;
            told("payload's length " + value, value < 1 || value > 192 ? FlashBoot.BAD : 0, update);
            update = Update.whole(2, NEXT);
            update.imageLength = value;
            told("image's length " + value, value < 1 || value > 192 ? FlashBoot.BAD : 0, update);
            update = Update.whole(value, NEXT);
            int late = value == 1 ? FlashBoot.OLD : 0;
            told("sequence " + value, value < 1 || value > 200 ? FlashBoot.BAD : late, update);
        }
    }

    private static void tags() {
        for (int bit = 0; bit < 32; bit++) {
            Update update = Update.whole(2, NEXT);
            update.tagFault = 1 << bit;
            told("tag, bit " + bit, FlashBoot.TAG, update);
        }
        int[] right = Update.whole(2, NEXT).manifest();
        for (int i = 2; i < 16; i++) {
            if (i != 6 && i != 11) {
                int[] row = right.clone();
                row[i] ^= 16;
                Due.is("byte " + i + " changed", FlashBoot.TAG, Device.running(1).type(row).x.manifest());
            }
        }
        for (int vendor : new int[] {0, 8, 10, 137, 255}) {
            Update update = Update.whole(2, NEXT);
            update.vendor = vendor;
            told("vendor " + vendor, FlashBoot.TAG, update);
        }
        Update update = Update.whole(2, NEXT);
        update.more++;
        told("another key", FlashBoot.TAG, update);
    }

    private static void sequences() {
        Due.is("less than what runs", FlashBoot.OLD, Device.running(10).manifest(Update.whole(9, NEXT)));
        Due.is("as what runs", FlashBoot.OLD, Device.running(10).manifest(Update.whole(10, NEXT)));
        Due.is("above what runs", 0, Device.running(10).manifest(Update.whole(11, NEXT)));
        Due.is("200 above 199", 0, Device.running(199).manifest(Update.whole(200, NEXT)));
        Due.is("200 on 200", FlashBoot.OLD, Device.running(200).manifest(Update.whole(200, NEXT)));

        Device idle = new Device().type(Device.FIRST);
        idle.x.factory(1);
        Due.is("no image runs", FlashBoot.OLD, idle.manifest(Update.whole(2, NEXT)));
        Device both = Device.running(1);
        both.install(Update.whole(2, NEXT));
        both.type(Device.FIRST).x.factory(1);
        Due.is("no image runs, though two are good", FlashBoot.OLD, both.manifest(Update.whole(5, NEXT)));
        Due.is("no image was ever", FlashBoot.OLD, new Device().manifest(Update.whole(2, NEXT)));

        Device trial = Device.running(10);
        trial.install(Update.whole(12, NEXT));
        Due.is("above the one that runs, as the other slot's", 0, trial.manifest(Update.whole(12, Device.FIRST)));
        trial.x.boot();
        Due.is("as the one on trial", FlashBoot.OLD, trial.manifest(Update.whole(12, Device.FIRST)));
        Due.is("above the one on trial", 0, trial.manifest(Update.whole(13, Device.FIRST)));
    }

    private static void orderOfAnswers() {
        Update update = Update.whole(0, NEXT);
        update.tagFault = 1;
        told("out of its range and wrong tag", FlashBoot.BAD, update);
        update = Update.whole(1, NEXT);
        update.tagFault = 1;
        told("wrong tag and old", FlashBoot.TAG, update);
        Device device = Device.running(10);
        device.install(Update.whole(30, NEXT));
        device.x.boot();
        device.x.confirm();
        Due.is("as the counter", FlashBoot.OLD, device.manifest(Update.whole(30, Device.FIRST)));
        Due.is("above the counter", 0, device.manifest(Update.whole(31, Device.FIRST)));
        Device same = Device.running(1).stage(Update.whole(2, NEXT));
        same.type(Device.FIRST).x.factory(2);
        same.x.boot();
        Due.is("old, though page 20 has it", FlashBoot.OLD, same.manifest(Update.whole(2, NEXT)));
    }

    private static void sameAgain() {
        Update update = Update.whole(2, NEXT);
        Device device = Device.running(1).stage(update);
        int acts = device.x.acts();
        Due.is("the same manifest again", 1, device.manifest(update));
        Due.is("the tape behind it, without a manifest", FlashBoot.BAD, device.x.manifest());
        Due.is("acts() of the same", acts, device.x.acts());
        Due.is("install of what stayed staged", 1, device.x.install());
        Due.is("the same behind install", 0, device.manifest(update));
        Due.is("LACKS, as the map is new", FlashBoot.LACKS, device.x.install());
    }

    /** Page 20 is torn when another manifest comes: just its first bytes are erased. */
    private static void sameAgainBehindATearing() {
        Update update = Update.whole(2, NEXT);
        for (int erased = 0; erased < 32; erased++) {
            Device device = Device.running(1).stage(update);
            device.x.crash(1, erased);
            Due.is("torn", FlashBoot.OFF, device.manifest(Update.whole(3, NEXT)));
            device.x.boot();
            String what = erased + " bytes of page 20 erased";
            Due.is(what + ": block", erased > 0 ? FlashBoot.BAD : 1, device.block(update, 0));
            device.manifest(Update.whole(0, NEXT));
            device.x.manifest();
            Due.is(what + ": install", erased > 0 ? FlashBoot.NONE : FlashBoot.LACKS, device.x.install());
            Due.is(what + ": the same again", erased > 0 ? 0 : 1, device.manifest(update));
        }
    }

    private static void anotherOne() {
        Device device = Device.running(1).stage(Update.whole(2, NEXT));
        Update other = Update.whole(3, NEXT);
        Due.is("another manifest", 0, device.manifest(other));
        Due.is("install: its blocks are gone", FlashBoot.LACKS, device.x.install());
        Due.is("a block of the other", 1, device.block(other, 0));
        Due.is("a wrong manifest changes nothing", FlashBoot.BAD, device.type(1, 2).x.manifest());
        Due.is("the block is there", 0, device.block(other, 0));
    }

    private static void isRefused(String what, int answer, int... row) {
        new Sweep(what, () -> Device.running(1).stage(Update.whole(2, NEXT)).type(row), FlashBoot::manifest)
            .isRefused(answer);
    }

    private static void refused() {
        Update update = Update.whole(200, NEXT);
        int[] row = update.manifest();
        isRefused("no manifest", FlashBoot.BAD);
        isRefused("a manifest of 19 bytes", FlashBoot.BAD, Bytes.part(row, 0, 19));
        isRefused("a manifest of 21 bytes", FlashBoot.BAD, Bytes.join(row, Bytes.of(255)));
        isRefused("sequence 0", FlashBoot.BAD, Update.whole(0, NEXT).manifest());
        isRefused("sequence 201", FlashBoot.BAD, Update.whole(201, NEXT).manifest());
        isRefused("an old one", FlashBoot.OLD, Update.whole(1, NEXT).manifest());
        isRefused("the same", 1, Update.whole(2, NEXT).manifest());
        update.tagFault = 1;
        isRefused("a wrong tag", FlashBoot.TAG, update.manifest());
        update.tagFault = 0;
        update.vendor++;
        isRefused("another vendor", FlashBoot.TAG, update.manifest());
    }

    private static void tape() {
        for (int n = 0; n < 28; n++) {
            Device device = Device.running(1);
            device.x.crash(n, 0);
            Due.is("torn behind " + n, FlashBoot.OFF, device.manifest(Update.whole(2, NEXT)));
            Due.is("the tape behind one torn behind " + n, 0, device.tapeLength());
        }
    }

    private static void withoutPower() {
        Update update = Update.whole(2, NEXT);
        Device device = Device.running(1);
        device.x.crash(0, 0);
        device.manifest(update);
        Due.is("without power", FlashBoot.OFF, device.manifest(update));
        Due.is("boot", 0, device.x.boot());
        Due.is("the tape stayed", 0, device.x.manifest());
    }
}

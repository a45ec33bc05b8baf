public final class Promise06InstallTest {
    private static final int[] FIRST = Device.FIRST;
    private static final int[] NEXT = Bytes.image(20, 2);

    public static void main(String[] args) {
        everyAct();
        everyActToTheLowerSlot();
        noManifest();
        old();
        lacks();
        tornBlock();
        wrongDigests();
        base();
        noughtIsNoBase();
        patches();
        wrongPatches();
        endOfTheBase();
        endOfTheStage();
        lengths();
        refused();
        tornAtTheLastAct();
        orderOfAnswers();
        whatItLeaves();
        withoutPower();
        Due.end();
    }

    static Acts acts(int slot, int sequence, int[] image) {
        int page = 7 * slot;
        int header = 32 * (page + 6);
        return new Acts().erase(page + 6, page, page + 1, page + 2, page + 3, page + 4, page + 5)
            .program(32 * page, image).program(header, image.length, sequence)
            .program(header + 2, Bytes.word(Bytes.digest(image))).program(header + 6, 15)
            .program(header + 8, 0).erase(20);
    }

    private static void everyAct() {
        new Sweep("install()", () -> Device.running(1).stage(Update.whole(2, NEXT)), FlashBoot::install)
            .isDue(1, acts(1, 2, NEXT));
    }

    /** With slot 1 running and slot 0 still holding the factory's image. */
    private static void everyActToTheLowerSlot() {
        int[] third = Bytes.image(33, 3);
        new Sweep("install() to slot 0", () -> {
            Device device = Device.running(1, Bytes.image(192, 9));
            device.install(Update.whole(2, NEXT));
            device.x.boot();
            return device.stage(Update.whole(200, third));
        }, FlashBoot::install).isDue(1, acts(0, 200, third));
    }

    private static void noManifest() {
        Device device = Device.running(1);
        Due.is("no manifest", FlashBoot.NONE, device.x.install());
        device.x.crash(20, 0x80);
        Due.is("torn manifest", FlashBoot.OFF, device.manifest(Update.whole(2, NEXT)));
        device.x.boot();
        Due.is("a torn manifest", FlashBoot.NONE, device.x.install());
        device.install(Update.whole(2, NEXT));
        Due.is("a manifest that is taken", FlashBoot.NONE, device.x.install());
    }

    private static void old() {
        Device device = Device.running(1).stage(Update.whole(2, NEXT));
        device.type(FIRST).x.factory(1);
        int acts = device.x.acts();
        Due.is("nothing runs", FlashBoot.OLD, device.x.install());
        device.type(FIRST).x.factory(2);
        device.x.boot();
        Due.is("as what runs", FlashBoot.OLD, device.x.install());
        device.type(FIRST).x.factory(3);
        device.x.boot();
        Due.is("less than what runs", FlashBoot.OLD, device.x.install());
        Due.is("acts() of old ones: those of two factories", acts + 2 * 56, device.x.acts());
        device.type(FIRST).x.factory(1);
        device.x.boot();
        Due.is("above what runs", 1, device.x.install());
    }

    private static void lacks() {
        Update update = Update.whole(2, Bytes.image(190, 2));
        for (int lack = 0; lack < 12; lack++) {
            Device device = Device.running(1);
            device.manifest(update);
            for (int k = 0; k < 12; k++) {
                if (k != lack) {
                    device.block(update, k);
                }
            }
            int acts = device.x.acts();
            Due.is("block " + lack + " is not there", FlashBoot.LACKS, device.x.install());
            Due.is("acts() when one lacks", acts, device.x.acts());
            device.block(update, lack);
            Due.is("it is there now", 1, device.x.install());
        }
    }

    /** A block is there when its byte of the map is 0, and not before. */
    private static void tornBlock() {
        Update update = Update.whole(2, NEXT);
        for (int mask : new int[] {0, 1, 128, 255}) {
            Device device = Device.running(1);
            device.manifest(update);
            device.block(update, 1);
            device.x.crash(16, mask);
            Due.is("torn at the map", FlashBoot.OFF, device.block(update, 0));
            device.x.boot();
            Due.is("the map torn with " + mask, mask == 0 ? 1 : FlashBoot.LACKS, device.x.install());
        }
    }

    private static void installs(String what, int want, Update update) {
        Device device = Device.running(1).stage(update);
        int acts = device.x.acts();
        Due.is(what, want, device.x.install());
        if (want != 1) {
            Due.is(what + ": acts()", acts, device.x.acts());
            device.isState(what, 0, 0, 1, 0);
        }
    }

    private static void wrongDigests() {
        for (int bit = 0; bit < 32; bit++) {
            Update update = Update.whole(2, NEXT);
            update.payloadDigest ^= 1 << bit;
            installs("payload's digest, bit " + bit, FlashBoot.WRONG, update);
            update = Update.whole(2, NEXT);
            update.imageDigest ^= 1 << bit;
            installs("image's digest, bit " + bit, FlashBoot.WRONG, update);
            update = Update.whole(2, NEXT).on(FIRST);
            update.baseDigest ^= 1 << bit;
            installs("base's digest, bit " + bit, FlashBoot.WRONG, update);
        }
        Update update = Update.whole(2, NEXT);
        Device device = Device.running(1);
        device.manifest(update);
        device.type(Bytes.join(Bytes.part(update.payload, 0, 15), Bytes.of(update.payload[15] ^ 1))).x.block(0);
        device.block(update, 1);
        Due.is("a byte of the payload is another", FlashBoot.WRONG, device.x.install());
    }

    private static void base() {
        installs("the right base, that nothing is taken of", 1, Update.whole(2, NEXT).on(FIRST));
        installs("another base", FlashBoot.WRONG, Update.whole(2, NEXT).on(NEXT));
        int[] copy = Bytes.of(128 + 39, 0);
        installs("all of the base", 1, new Update(2, copy, FIRST).on(FIRST));
        installs("all of the base, none told", FlashBoot.WRONG, new Update(2, copy, FIRST));

        int[] third = Bytes.join(Bytes.part(NEXT, 4, 16), Bytes.of(1, 2, 3), Bytes.part(NEXT, 0, 7));
        int[] patch = Bytes.of(128 + 15, 4, 2, 1, 2, 3, 128 + 6, 0);
        Device device = Device.running(1);
        device.install(Update.whole(2, NEXT));
        device.x.boot();
        device.install(new Update(3, patch, third).on(NEXT));
        device.areBytes("of slot 1's image in slot 0", 0, third);
        device.isState("both are there", 1, 0, 1, 1);
        Due.is("boot of the third", 0, device.x.boot());
    }

    private static int installOn(int[] base, Update update) {
        return Device.running(1, base).stage(update).x.install();
    }

    /** An image whose digest is 0 can't be told as a base, but it can run, and it can be installed. */
    private static void noughtIsNoBase() {
        int[] nought = TermsTest.NOUGHT;
        Due.is("a base whose digest is 0", 0, Bytes.digest(nought));
        Due.is("bytes of it", FlashBoot.WRONG, installOn(nought, new Update(2, Bytes.of(132, 0), nought).on(nought)));
        Due.is("no bytes of it", 1, installOn(nought, Update.whole(2, NEXT).on(nought)));
        Due.is("another base told", FlashBoot.WRONG, installOn(nought, Update.whole(2, NEXT).on(FIRST)));
        Due.is("an image whose digest is 0", 1, installOn(FIRST, Update.whole(2, nought).on(FIRST)));
    }

    private static void right(String what, int[] patch, int[]... parts) {
        int[] image = Bytes.join(parts);
        Device device = Device.running(1);
        device.install(new Update(2, patch, image).on(FIRST));
        device.areBytes(what, 224, image);
        device.areBytes(what + ": length and sequence", 416, image.length, 2);
        device.isState(what, 0, 0, 1, 1);
    }

    private static void patches() {
        right("one byte", Bytes.of(0, 200), Bytes.of(200));
        right("one byte of the base", Bytes.of(128, 39), Bytes.part(FIRST, 39, 1));
        right("128 bytes at once", Bytes.join(Bytes.of(127), Bytes.image(128, 5)), Bytes.image(128, 5));
        right("parts of all kinds", Bytes.of(131, 36, 0, 7, 1, 128, 255, 130, 0, 128, 0),
            Bytes.part(FIRST, 36, 4), Bytes.of(7, 128, 255), Bytes.part(FIRST, 0, 3), Bytes.part(FIRST, 0, 1));

        int[] wide = Bytes.image(192, 3);
        Device device = Device.running(1, wide);
        int[] turned = Bytes.join(Bytes.part(wide, 64, 128), Bytes.part(wide, 128, 64));
        device.install(new Update(2, Bytes.of(255, 64, 128 + 63, 128), turned).on(wide));
        device.areBytes("192 bytes of the base", 224, turned);
    }

    private static void wrongPatch(String what, int[] patch, int[] image) {
        installs(what, FlashBoot.WRONG, new Update(2, patch, image).on(FIRST));
    }

    private static void wrongPatches() {
        wrongPatch("a byte's part without its byte", Bytes.of(0), Bytes.of(255));
        wrongPatch("a part without its last byte", Bytes.of(0, 1, 2, 5, 6), Bytes.of(1, 5, 6, 255));
        wrongPatch("a part without its last byte, the bytes there told", Bytes.of(0, 1, 2, 5, 6), Bytes.of(1, 5, 6));
        wrongPatch("a base part without its place", Bytes.of(0, 1, 128), Bytes.of(1));
        wrongPatch("a base part without its place, which reads 255", Bytes.of(0, 1, 128), Bytes.of(1, 255));
        wrongPatch("one behind the base", Bytes.of(128, 40), Bytes.of(255));
        wrongPatch("over the base's end", Bytes.of(129, 39), Bytes.of(FIRST[39], 255));
        wrongPatch("one more than the base", Bytes.of(128 + 40, 0), Bytes.join(FIRST, Bytes.of(255)));
        wrongPatch("far behind the base", Bytes.of(255, 255), erased(128));
        wrongPatch("the slot's header as base", Bytes.of(128, 192), Bytes.of(40));
        installs("no base is told", FlashBoot.WRONG, new Update(2, Bytes.of(128, 0), Bytes.part(FIRST, 0, 1)));
    }

    /** The image is what stands in flash from there on, also where it is the base's no more. */
    private static int ofWideBase(int length, int place) {
        int[] wide = Bytes.image(192, 3);
        int[] header = Bytes.join(Bytes.of(192, 1), Bytes.word(Bytes.digest(wide)), Bytes.of(255, 0, 0));
        int[] image = Bytes.part(Bytes.join(wide, header, erased(182)), place, length);
        return installOn(wide, new Update(2, Bytes.of(127 + length, place), image).on(wide));
    }

    private static int[] erased(int length) {
        int[] row = new int[length];
        java.util.Arrays.fill(row, 255);
        return row;
    }

    private static void endOfTheBase() {
        Due.is("the last byte of 192", 1, ofWideBase(1, 191));
        Due.is("the byte behind 192", FlashBoot.WRONG, ofWideBase(1, 192));
        Due.is("the last place", FlashBoot.WRONG, ofWideBase(1, 255));
        Due.is("two bytes, one of them behind", FlashBoot.WRONG, ofWideBase(2, 191));
        Due.is("the first 128", 1, ofWideBase(128, 0));
        Due.is("the last 128", 1, ofWideBase(128, 64));
        Due.is("128, one of them behind", FlashBoot.WRONG, ofWideBase(128, 65));
        int[] one = Bytes.of(77);
        Due.is("a base of one byte", 1, installOn(one, new Update(2, Bytes.of(128, 0), one).on(one)));
        Due.is("behind it", FlashBoot.WRONG, installOn(one, new Update(2, Bytes.of(128, 1), Bytes.of(255)).on(one)));
    }

    /** Behind the 192nd byte of the stage stands the manifest, whose first byte is the vendor. */
    private static void endOfTheStage() {
        int[] parts = {1, 5, 6};
        int[] image = {5, 6};
        for (int i = 0; i < 94; i++) {
            parts = Bytes.join(parts, Bytes.of(0, i));
            image = Bytes.join(image, Bytes.of(i));
        }
        int[] vendor = Bytes.of(Device.VENDOR);
        int[] place = Bytes.part(FIRST, Device.VENDOR, 1);
        wrongPatch("a byte behind the stage", Bytes.join(parts, Bytes.of(0)), Bytes.join(image, vendor));
        wrongPatch("a place behind the stage", Bytes.join(parts, Bytes.of(128)), Bytes.join(image, place));
        int[] whole = Bytes.join(Bytes.part(parts, 3, 188), Bytes.of(2, 7, 8, 9));
        right("a payload of 192", whole, Bytes.part(image, 2, 94), Bytes.of(7, 8, 9));
        for (int b : new int[] {0, 127, 128, 255}) {
            wrongPatch("a payload of one byte, " + b, Bytes.of(b), erased(b % 128 + 1));
        }
    }

    private static void isRefused(String what, int answer, java.util.function.Supplier<Device> scene) {
        new Sweep(what, scene, FlashBoot::install).isRefused(answer);
    }

    private static void refused() {
        Update update = Update.whole(2, NEXT);
        isRefused("no manifest", FlashBoot.NONE, () -> Device.running(1));
        isRefused("old", FlashBoot.OLD, () -> {
            Device device = Device.running(1).stage(update);
            device.type(FIRST).x.factory(2);
            device.x.boot();
            return device;
        });
        isRefused("a block is not there", FlashBoot.LACKS, () -> {
            Device device = Device.running(1);
            device.manifest(update);
            device.block(update, 1);
            return device;
        });
        Update wrong = Update.whole(2, NEXT);
        wrong.imageDigest++;
        isRefused("wrong", FlashBoot.WRONG, () -> Device.running(1).stage(wrong));
    }

    /** The image is whole before its manifest goes: it runs, and it is not taken twice. */
    private static void tornAtTheLastAct() {
        for (int mask : new int[] {0, 1, 31, 32, 255}) {
            Device device = Device.running(1).stage(Update.whole(2, NEXT));
            device.x.crash(7 + 20 + 8, mask);
            Due.is("torn install", FlashBoot.OFF, device.x.install());
            device.isState("torn install", FlashBoot.NONE, 0, 1, 1);
            Due.is("boot", 1, device.x.boot());
            int want = mask % 32 == 0 ? FlashBoot.OLD : FlashBoot.NONE;
            Due.is("install again, page 20 torn with " + mask, want, device.x.install());
        }
    }

    private static void lengths() {
        Update update = Update.whole(2, NEXT);
        for (int length : new int[] {1, 19, 21, 192}) {
            update.imageLength = length;
            installs("image's length told as " + length, FlashBoot.WRONG, update);
        }
        int[] doubled = Bytes.of(128 + 39, 0, 128 + 39, 0, 128 + 39, 0, 128 + 39, 0);
        int[] image = Bytes.join(FIRST, FIRST, FIRST, FIRST);
        installs("160 bytes", 1, new Update(2, doubled, image).on(FIRST));
        int[] tooMuch = Bytes.join(doubled, Bytes.of(128 + 31, 0));
        int[] full = Bytes.join(image, Bytes.part(FIRST, 0, 32));
        installs("192 bytes", 1, new Update(2, tooMuch, full).on(FIRST));
        int[] more = Bytes.join(tooMuch, Bytes.of(0, 1));
        installs("193 bytes, 192 told", FlashBoot.WRONG, new Update(2, more, full).on(FIRST));
        int[] most = Bytes.image(192, 0);
        for (int i = 0; i < 192; i += 2) {
            most[i] = 128 + 39;
            most[i + 1] = 0;
        }
        installs("3840 bytes", FlashBoot.WRONG, new Update(2, most, full).on(FIRST));
    }

    private static void orderOfAnswers() {
        Update update = Update.whole(2, NEXT);
        update.imageDigest++;
        Device device = Device.running(1);
        device.manifest(update);
        Due.is("lacks before wrong", FlashBoot.LACKS, device.x.install());
        device.type(FIRST).x.factory(1);
        Due.is("old before lacks", FlashBoot.OLD, device.x.install());
        Due.is("none before old", FlashBoot.NONE, new Device().x.install());
    }

    private static void whatItLeaves() {
        Device device = Device.running(1).stage(Update.whole(2, NEXT));
        device.type(1, 2, 3);
        Due.is("install", 1, device.x.install());
        device.isState("behind install", 0, 0, 1, 1);
        device.areBytes("page 20", 640, 255, 255, 255);
        device.areBytes("the header", 422, 15, 255, 0, 255);
        device.areBytes("the stage stays", 448, Update.whole(2, NEXT).block(0));
        device.areBytes("the map stays", 672, 0, 0, 255);
        Due.is("the tape stays", 3, device.tapeLength());
    }

    private static void withoutPower() {
        Device device = Device.running(1).stage(Update.whole(2, NEXT));
        device.x.crash(0, 255);
        device.x.install();
        int acts = device.x.acts();
        Due.is("install without power", FlashBoot.OFF, device.x.install());
        Due.is("acts() without power", acts, device.x.acts());
        device.x.boot();
        Due.is("install again", 1, device.x.install());
    }
}

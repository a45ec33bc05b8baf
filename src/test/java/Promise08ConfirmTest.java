public final class Promise08ConfirmTest {
    private static final int[] NEXT = Bytes.image(20, 2);
    private static final int[] THIRD = Bytes.image(30, 3);

    public static void main(String[] args) {
        everyAct();
        everyActFromACounter();
        confirmedBefore();
        nothingRuns();
        theOtherSlotIsOld();
        greatestSequence();
        tornBeforeTheCounter();
        noActMore();
        refused();
        withoutPower();
        Due.end();
    }

    private static Device onTrial(int sequence) {
        Device device = Device.running(1);
        device.install(Update.whole(sequence, NEXT));
        device.x.boot();
        return device;
    }

    private static void everyAct() {
        new Sweep("confirm()", () -> onTrial(11), FlashBoot::confirm).isDue(1, new Acts().program(423, 0)
            .program(704, 254).program(704, 252).program(704, 248).program(704, 240)
            .program(704, 224).program(704, 192).program(704, 128).program(704, 0)
            .program(705, 254).program(705, 252).program(705, 248));
    }

    private static void everyActFromACounter() {
        new Sweep("confirm() of a third", () -> {
            Device device = onTrial(6);
            device.x.confirm();
            device.install(Update.whole(9, THIRD));
            device.x.boot();
            return device;
        }, FlashBoot::confirm).isDue(1, new Acts().program(199, 0)
            .program(704, 128).program(704, 0).program(705, 254));
    }

    private static void confirmedBefore() {
        Device device = Device.running(9);
        int acts = device.x.acts();
        Due.is("confirm of the factory's", 0, device.x.confirm());
        Due.is("acts() of that", acts, device.x.acts());
        Due.is("the counter stays", 0, device.x.counter());
        device.install(Update.whole(10, NEXT));
        Due.is("the other slot is on trial", 0, device.x.confirm());
        device.x.boot();
        device.type(1, 2);
        Due.is("confirm on trial", 1, device.x.confirm());
        Due.is("confirm again", 0, device.x.confirm());
        Due.is("the tape stays", 2, device.tapeLength());
        Due.is("it runs on", 1, device.x.running());
    }

    private static void nothingRuns() {
        Due.is("confirm of a new one", FlashBoot.NONE, new FlashBoot(1, 2, 3).confirm());
        Device device = new Device().type(1);
        device.x.factory(1);
        Due.is("confirm behind factory", FlashBoot.NONE, device.x.confirm());
        Due.is("acts()", 17, device.x.acts());
    }

    private static void theOtherSlotIsOld() {
        Device device = onTrial(2);
        device.isState("on trial", 1, 0, 1, 1);
        device.x.confirm();
        device.isState("confirmed", 1, 2, 0, 1);
        Due.is("boot", 1, device.x.boot());
        device.areBytes("no trial is used", 422, 14, 0, 0);
    }

    private static void greatestSequence() {
        Device device = onTrial(200);
        int acts = device.x.acts();
        Due.is("confirm of 200", 1, device.x.confirm());
        Due.is("counter()", 200, device.x.counter());
        Due.is("acts()", acts + 201, device.x.acts());
        for (int i = 0; i < 32; i++) {
            device.areBytes("the counter's page", 704 + i, i < 25 ? 0 : 255);
        }
        Due.is("boot", 1, device.x.boot());
    }

    private static void tornBeforeTheCounter() {
        Device device = onTrial(5);
        device.x.crash(3, 255);
        Due.is("torn confirm", FlashBoot.OFF, device.x.confirm());
        device.isState("torn confirm", FlashBoot.NONE, 2, 0, 1);
        device.x.boot();
        Due.is("it was confirmed", 0, device.x.confirm());
        Due.is("the counter stays", 2, device.x.counter());

        Device byteOfMask = onTrial(5);
        byteOfMask.x.crash(0, 4);
        byteOfMask.x.confirm();
        byteOfMask.areBytes("torn confirmation", 423, 4);
        Due.is("it is on trial still", 1, byteOfMask.x.boot());
        byteOfMask.areBytes("a trial is used", 422, 12);
        Due.is("confirm again", 1, byteOfMask.x.confirm());
        Due.is("counter()", 5, byteOfMask.x.counter());
    }

    /** A crash set behind just as many acts as it does is not met. */
    private static void noActMore() {
        Device device = onTrial(2);
        device.x.crash(1 + 2, 0);
        Due.is("confirm", 1, device.x.confirm());
        Due.is("the crash is met by the next act", FlashBoot.OFF, device.type(1).x.factory(1));
    }

    private static void refused() {
        new Sweep("confirm() of a new one", Device::new, FlashBoot::confirm).isRefused(FlashBoot.NONE);
        new Sweep("confirm() behind factory", () -> {
            Device device = Device.running(1).type(1);
            device.x.factory(1);
            return device;
        }, FlashBoot::confirm).isRefused(FlashBoot.NONE);
        new Sweep("confirm() of the factory's", () -> Device.running(200), FlashBoot::confirm).isRefused(0);
        new Sweep("confirm() again", () -> {
            Device device = onTrial(5);
            device.x.confirm();
            return device;
        }, FlashBoot::confirm).isRefused(0);
    }

    private static void withoutPower() {
        Device device = onTrial(5);
        device.x.crash(0, 255);
        device.x.confirm();
        Due.is("confirm without power", FlashBoot.OFF, device.x.confirm());
        device.areBytes("nothing is done", 423, 255);
    }
}

public final class Promise07BootTest {
    private static final int NONE = FlashBoot.NONE;
    private static final int[] FIRST = Device.FIRST;
    private static final int[] NEXT = Bytes.image(20, 2);
    private static final int[] THIRD = Bytes.image(30, 3);

    public static void main(String[] args) {
        everyAct();
        noneIsGood();
        confirmedOne();
        trials();
        trialBeforeGreater();
        twoTrials();
        twoConfirmed();
        sameSequence();
        sequencesAbove127();
        trialBelowTheCounter();
        noneCanRun();
        powerComes();
        everyTornUpdateBoots();
        Due.end();
    }

    private static void everyAct() {
        int[] left = {15, 14, 12, 8};
        for (int booted = 0; booted < 4; booted++) {
            int boots = booted;
            new Sweep("boot() number " + booted, () -> {
                Device device = Device.running(1);
                device.install(Update.whole(2, NEXT));
                for (int i = 0; i < boots; i++) {
                    Due.is("boot on the way", 1, device.x.boot());
                }
                return device;
            }, FlashBoot::boot).isDue(1, new Acts().program(422, left[booted] & left[booted] - 1));
        }
        new Sweep("boot() of a new one", Device::new, FlashBoot::boot).isRefused(NONE);
        new Sweep("boot() when none can run", Promise07BootTest::noTrialLeft, FlashBoot::boot).isDue(NONE, new Acts());
        new Sweep("boot() of a confirmed one", () -> Device.running(1), FlashBoot::boot).isDue(0, new Acts());
    }

    private static void noneIsGood() {
        FlashBoot x = new FlashBoot(1, 2, 3);
        Due.is("boot of a new one", NONE, x.boot());
        Due.is("running()", NONE, x.running());
        Due.is("acts()", 0, x.acts());
    }

    private static void confirmedOne() {
        Device device = new Device().type(FIRST);
        device.x.factory(7);
        int acts = device.x.acts();
        device.type(1, 2, 3);
        Due.is("running() before boot", NONE, device.x.running());
        Due.is("boot", 0, device.x.boot());
        Due.is("boot again", 0, device.x.boot());
        Due.is("acts() of a confirmed one's boot", acts, device.x.acts());
        Due.is("the tape stays", 3, device.tapeLength());
        device.isState("booted", 0, 0, 1, 0);
    }

    private static void trials() {
        Device device = Device.running(1);
        device.install(Update.whole(2, NEXT));
        int acts = device.x.acts();
        int[] left = {14, 12, 8, 0};
        for (int i = 0; i < 4; i++) {
            Due.is("trial boot", 1, device.x.boot());
            Due.is("running()", 1, device.x.running());
            device.areBytes("trials left", 422, left[i], 255);
            Due.is("acts()", acts + i + 1, device.x.acts());
        }
        Due.is("boot when no trial is left", 0, device.x.boot());
        device.isState("it is good, but on trial no more", 0, 0, 1, 1);
        Due.is("acts() of that", acts + 4, device.x.acts());
    }

    /** A trial goes before a confirmed image, also when that has the greater sequence. */
    private static void trialBeforeGreater() {
        Device device = Device.running(1);
        device.install(Update.whole(2, NEXT));
        device.type(FIRST).x.factory(9);
        for (int i = 0; i < 4; i++) {
            Due.is("the trial of 2 before the confirmed 9", 1, device.x.boot());
        }
        Due.is("the confirmed 9 then", 0, device.x.boot());
    }

    private static Device twoOnTrial() {
        Device device = Device.running(1);
        device.install(Update.whole(2, NEXT));
        device.x.boot();
        return device.install(Update.whole(3, THIRD));
    }

    private static void twoTrials() {
        Device device = twoOnTrial();
        device.isState("both on trial", 1, 0, 1, 1);
        for (int i = 0; i < 4; i++) {
            Due.is("the greater of two trials", 0, device.x.boot());
        }
        device.areBytes("the lesser one's trials", 422, 14);
        for (int i = 0; i < 3; i++) {
            Due.is("the lesser of two trials, when it has trials alone", 1, device.x.boot());
        }
        device.isState("before the last", 1, 0, 1, 1);

        Device other = twoOnTrial();
        other.x.boot();
        other.install(Update.whole(4, NEXT));
        Due.is("the greater of two trials, in slot 1", 1, other.x.boot());
    }

    /** Both slots are confirmed and good when a confirmation is torn before the counter rises. */
    static Device bothConfirmed(int sequence) {
        Device device = Device.running(1);
        device.install(Update.whole(sequence, NEXT));
        device.x.boot();
        device.x.crash(1, 255);
        Due.is("torn confirm on the way", FlashBoot.OFF, device.x.confirm());
        return device;
    }

    private static void twoConfirmed() {
        Device device = bothConfirmed(5);
        device.isState("both confirmed", NONE, 0, 1, 1);
        int acts = device.x.acts();
        Due.is("the greater of two confirmed", 1, device.x.boot());
        Due.is("acts()", acts, device.x.acts());
        device.type(FIRST).x.factory(6);
        Due.is("the greater of two confirmed, in slot 0", 0, device.x.boot());
        device.type(FIRST).x.factory(4);
        Due.is("the greater of two confirmed, in slot 1 again", 1, device.x.boot());
    }

    private static void sameSequence() {
        Device device = bothConfirmed(5);
        device.x.boot();
        device.type(FIRST).x.factory(5);
        Due.is("the lesser slot", 0, device.x.boot());

        Device trial = Device.running(1);
        trial.install(Update.whole(5, NEXT));
        trial.type(FIRST).x.factory(5);
        Due.is("the trial of two with the same", 1, trial.x.boot());
    }

    /** The greater sequence is that of the whole byte. */
    private static void sequencesAbove127() {
        Device device = bothConfirmed(200);
        for (int sequence : new int[] {1, 127, 128, 199, 200}) {
            device.type(FIRST).x.factory(sequence);
            Due.is("200 or " + sequence, sequence < 200 ? 1 : 0, device.x.boot());
        }
    }

    /** It has trials left and is whole, but an image that was confirmed since is newer. */
    private static void trialBelowTheCounter() {
        Device device = twoOnTrial();
        Due.is("the greater one", 0, device.x.boot());
        Due.is("confirm", 1, device.x.confirm());
        device.isState("confirmed", 0, 3, 1, 0);
        device.areBytes("trials that are left", 422, 14);
        for (int i = 0; i < 5; i++) {
            Due.is("the confirmed one", 0, device.x.boot());
        }
        device.areBytes("trials that are left still", 422, 14);
    }

    private static Device noTrialLeft() {
        Device device = twoOnTrial();
        for (int i = 0; i < 7; i++) {
            device.x.boot();
        }
        return device;
    }

    private static void noneCanRun() {
        Device device = noTrialLeft();
        int acts = device.x.acts();
        Due.is("boot when none is confirmed and no trial is left", NONE, device.x.boot());
        device.isState("good ones that can't run", NONE, 0, 1, 1);
        Due.is("acts()", acts, device.x.acts());
        Due.is("power is on", NONE, device.x.confirm());
    }

    private static void powerComes() {
        Device device = new Device();
        device.x.crash(0, 0);
        device.type(1).x.factory(1);
        Due.is("no power", FlashBoot.OFF, device.x.manifest());
        Due.is("boot with none", NONE, device.x.boot());
        Due.is("power", FlashBoot.BAD, device.x.manifest());

        Device torn = Device.running(1);
        torn.install(Update.whole(2, NEXT));
        torn.type(1, 2, 3).x.crash(0, 1);
        Due.is("torn boot", FlashBoot.OFF, torn.x.boot());
        torn.isState("torn boot", NONE, 0, 1, 1);
        torn.areBytes("no trial is used", 422, 15);
        Due.is("without power", FlashBoot.OFF, torn.x.manifest());
        Due.is("boot again", 1, torn.x.boot());
        Due.is("the tape stays", 3, torn.tapeLength());
    }

    /** What the whole is for: no tearing leaves a device that can't boot a whole image. */
    private static void everyTornUpdateBoots() {
        Update update = Update.whole(2, NEXT);
        for (int n = 0; n < 110; n++) {
            for (int mask : new int[] {0, 255, 20}) {
                Device device = Device.running(1);
                device.x.crash(n, mask);
                boolean isTorn = device.manifest(update) < 0;
                for (int k = 0; k < 2; k++) {
                    isTorn |= device.block(update, k) < 0;
                }
                isTorn |= device.x.install() < 0;
                String what = "update with crash(" + n + ", " + mask + ")";
                Due.is(what + " is torn", n < 28 + 23 + 36 ? 1 : 0, isTorn ? 1 : 0);
                Due.is(what + ": slot 0 is good", 1, device.x.good(0));
                int whole = device.x.good(1);
                device.x.crash(-1, 0);
                Due.is(what + ": boot", whole, device.x.boot());
            }
        }
    }
}

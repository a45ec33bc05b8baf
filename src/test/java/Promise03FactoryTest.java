public final class Promise03FactoryTest {
    public static void main(String[] args) {
        everyAct();
        everyActOverAnOldImage();
        wrongOnes();
        edges();
        tape();
        whatRanDoesNot();
        counterIsErased();
        withoutPower();
        Due.end();
    }

    static Acts acts(int sequence, int[] image) {
        return new Acts().erase(0, 1, 2, 3, 4, 5, 6, 22).program(0, image)
            .program(192, image.length, sequence).program(194, Bytes.word(Bytes.digest(image)))
            .program(199, 0).program(200, 0);
    }

    private static void everyAct() {
        int[] image = Bytes.image(11, 4);
        new Sweep("factory(7)", () -> new Device().type(image), x -> x.factory(7)).isDue(1, acts(7, image));
    }

    /** Here tearing an erasure shows, as flash is not erased before. */
    private static void everyActOverAnOldImage() {
        int[] image = Bytes.image(5, 5);
        new Sweep("factory(3) over an image", () -> {
            Device device = Device.running(9, Bytes.image(192, 6));
            device.install(Update.whole(12, Bytes.image(20, 7)));
            device.x.boot();
            device.x.confirm();
            return device.type(image);
        }, x -> x.factory(3)).isDue(1, acts(3, image));
    }

    private static void wrongOnes() {
        Device device = Device.running(5);
        int acts = device.x.acts();
        Due.is("factory of no tape", FlashBoot.BAD, device.x.factory(5));
        device.type(1, 2, 3);
        for (int sequence : new int[] {0, 201, -1, 256, 257, Integer.MIN_VALUE, Integer.MAX_VALUE}) {
            Due.is("factory(" + sequence + ")", FlashBoot.BAD, device.x.factory(sequence));
        }
        Due.is("acts of wrong ones", acts, device.x.acts());
        device.isState("behind wrong ones", 0, 0, 1, 0);
        Due.is("the tape of a wrong one", 3, device.tapeLength());
        for (int sequence : new int[] {0, 201}) {
            new Sweep("factory(" + sequence + ")", () -> Device.running(5).type(1, 2, 3), x -> x.factory(sequence))
                .isRefused(FlashBoot.BAD);
        }
        new Sweep("factory() of no tape", () -> Device.running(5), x -> x.factory(5)).isRefused(FlashBoot.BAD);
    }

    private static void edges() {
        for (int sequence : new int[] {1, 200}) {
            for (int length : new int[] {1, 32, 33, 191, 192}) {
                int[] image = Bytes.image(length, sequence);
                Device device = new Device().type(image);
                Due.is("factory(" + sequence + ") of " + length, 1, device.x.factory(sequence));
                device.isState("factory", FlashBoot.NONE, 0, 1, 0);
                device.areBytes("factory: the image", 0, image);
                device.areBytes("factory: the header", 192, length, sequence);
                device.areBytes("factory: trials and all behind", 198, 255, 0, 0, 255);
                Due.is("factory: acts()", 16 + length, device.x.acts());
            }
        }
    }

    private static void tape() {
        Device device = new Device().type(1, 2, 3);
        device.x.factory(1);
        Due.is("the tape behind factory", 0, device.tapeLength());
        for (int n = 0; n < 19; n++) {
            device = new Device().type(1, 2, 3);
            device.x.crash(n, 0);
            Due.is("factory torn behind " + n, FlashBoot.OFF, device.x.factory(1));
            Due.is("the tape behind one torn behind " + n, 0, device.tapeLength());
        }
        device = new Device().type(Bytes.image(192, 2));
        Due.is("factory(201) of a full tape", FlashBoot.BAD, device.x.factory(201));
        Due.is("the full tape stays", FlashBoot.FULL, device.x.type(1, 1));
        Due.is("factory(200) of a full tape", 1, device.x.factory(200));
        Due.is("no tape is left", FlashBoot.BAD, device.x.factory(200));
    }

    private static void whatRanDoesNot() {
        Device device = Device.running(1);
        device.type(1, 2, 3);
        Due.is("factory again", 1, device.x.factory(1));
        Due.is("running() behind factory", FlashBoot.NONE, device.x.running());
        Due.is("confirm() behind factory", FlashBoot.NONE, device.x.confirm());
        Due.is("boot() behind factory", 0, device.x.boot());
    }

    private static void counterIsErased() {
        Device device = Device.running(1);
        device.install(Update.whole(20, Bytes.image(20, 2)));
        device.x.boot();
        device.x.confirm();
        device.isState("confirmed", 1, 20, 0, 1);
        device.type(1, 2, 3).x.factory(2);
        device.isState("factory behind an update", FlashBoot.NONE, 0, 1, 1);
    }

    private static void withoutPower() {
        Device device = new Device();
        device.x.crash(0, 0);
        device.type(9).x.factory(1);
        device.type(1, 2, 3);
        Due.is("factory without power", FlashBoot.OFF, device.x.factory(1));
        Due.is("wrong factory without power", FlashBoot.OFF, device.x.factory(0));
        Due.is("acts()", 1, device.x.acts());
        Due.is("boot", FlashBoot.NONE, device.x.boot());
        Due.is("the tape behind OFF without power", 3, device.tapeLength());
    }
}

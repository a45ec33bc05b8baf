import java.util.function.Supplier;
import java.util.function.ToIntFunction;

/** Tears a call at each of its acts, and looks at all of the flash: so the acts' order shows, too. */
final class Sweep {
    private static final int[] MASKS = {0, 255, 0x5A, 31, 32, 0xE7};
    /** No object is asked more than 512 times, so a flash is read from several, a window of each. */
    private static final int WINDOW = 256;

    private final String name;
    private final Supplier<Device> scene;
    private final ToIntFunction<FlashBoot> call;

    Sweep(String name, Supplier<Device> scene, ToIntFunction<FlashBoot> call) {
        this.name = name;
        this.scene = scene;
        this.call = call;
    }

    void isDue(int answer, Acts acts) {
        int[] before = new int[Device.SIZE];
        for (int from = 0; from < Device.SIZE; from += WINDOW) {
            FlashBoot x = scene.get().x;
            for (int i = from; i < from + WINDOW; i++) {
                before[i] = x.byteOf(i);
            }
        }
        whole(answer, acts, before, -1);
        whole(answer, acts, before, acts.size());
        for (int n = 0; n < acts.size(); n++) {
            for (int mask : MASKS) {
                torn(acts, before, n, mask);
            }
        }
    }

    /** A call that does no act, a crash set or not, and leaves what runs. */
    void isRefused(int answer) {
        isDue(answer, new Acts());
        FlashBoot x = scene.get().x;
        int running = x.running();
        call.applyAsInt(x);
        Due.is(name + ": running()", running, x.running());
    }

    private void whole(int answer, Acts acts, int[] before, int crash) {
        String what = name + " with crash(" + crash + ")";
        int[] want = before.clone();
        acts.apply(want, acts.size(), 0);
        for (int from = 0; from < Device.SIZE; from += WINDOW) {
            FlashBoot x = scene.get().x;
            int done = x.acts();
            x.crash(crash, 77);
            Due.is(what, answer, call.applyAsInt(x));
            Due.is(what + ": acts()", done + acts.size(), x.acts());
            window(what, x, want, from);
        }
    }

    private void torn(Acts acts, int[] before, int n, int mask) {
        String what = name + " with crash(" + n + ", " + mask + ")";
        int[] want = before.clone();
        acts.apply(want, n, mask);
        for (int from = 0; from < Device.SIZE; from += WINDOW) {
            FlashBoot x = scene.get().x;
            int done = x.acts();
            x.crash(n, mask);
            Due.is(what, FlashBoot.OFF, call.applyAsInt(x));
            Due.is(what + ": running()", FlashBoot.NONE, x.running());
            Due.is(what + ": acts()", done + n + 1, x.acts());
            Due.is(what + ": confirm() without power", FlashBoot.OFF, x.confirm());
            window(what, x, want, from);
        }
    }

    private static void window(String what, FlashBoot x, int[] want, int from) {
        for (int i = from; i < from + WINDOW; i++) {
            Due.is(what + ": byteOf(" + i + ")", want[i], x.byteOf(i));
        }
    }
}

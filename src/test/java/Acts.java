import java.util.ArrayList;
import java.util.List;

/** The acts that a call is due to do, and what they make of a flash. */
final class Acts {
    private record Act(int page, int at, int value) {
    }

    private final List<Act> acts = new ArrayList<>();

    Acts erase(int... pages) {
        for (int page : pages) {
            acts.add(new Act(page, -1, 0));
        }
        return this;
    }

    Acts program(int from, int... row) {
        for (int i = 0; i < row.length; i++) {
            acts.add(new Act(-1, from + i, row[i]));
        }
        return this;
    }

    int size() {
        return acts.size();
    }

    /** Does n acts, and tears the one behind them if there is one. */
    void apply(int[] flash, int n, int mask) {
        for (int i = 0; i < n && i < acts.size(); i++) {
            act(flash, acts.get(i), 32, 0);
        }
        if (n < acts.size()) {
            act(flash, acts.get(n), mask % 32, mask);
        }
    }

    private static void act(int[] flash, Act act, int erased, int mask) {
        if (act.page >= 0) {
            for (int i = 0; i < erased; i++) {
                flash[32 * act.page + i] = 255;
            }
        } else {
            flash[act.at] &= act.value | mask;
        }
    }
}

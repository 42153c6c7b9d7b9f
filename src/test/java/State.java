import java.util.function.Supplier;

/**
 * All that the face shows of an object, as a text. It tries out what cannot be looked at (words, marks, seeds, the
 * greatest counted), so the object is used up by it; it makes fewer than 200 calls.
 */
final class State {
    private static final int[] TOLD_SIZES = {8, 8, 4, 32, 3};

    private final TrustModule module;
    private final StringBuilder text = new StringBuilder();

    private State(TrustModule module) {
        this.module = module;
    }

    static String of(TrustModule module) {
        State state = new State(module);
        state.look();
        state.tryOut();
        state.look();
        state.powerAgain();
        return state.text.toString();
    }

    private void look() {
        for (int what = 0; what < TOLD_SIZES.length; what++) {
            for (int i = 0; i < TOLD_SIZES[what]; i++) {
                int whatThen = what;
                int iThen = i;
                add("told " + what + " " + i, () -> module.told(whatThen, iThen));
            }
        }
        for (int what = 0; what < 8; what++) {
            int whatThen = what;
            add("count " + what, () -> module.count(whatThen));
        }
        add("rate", module::rate);
    }

    private void tryOut() {
        for (int x = 0; x < 4; x++) {
            int xThen = x;
            add("read " + x, () -> module.read(xThen));
        }
        add("clock", () -> module.clock(0, 0));
        for (int k = 0; k < 4; k++) {
            int kThen = k;
            add("unseal " + k, () -> module.unseal(kThen, 0));
            add("open " + k, () -> module.open(kThen, 7));
        }
        for (int i = 0; i < 3; i++) {
            add("guesses " + i, () -> module.clock(9, 0) + module.count(1));
        }
        add("primary", () -> module.primary(0, 0));
        add("load", () -> module.load(0, 0));
    }

    private void powerAgain() {
        module.power(-1);
        for (int hierarchy = 0; hierarchy < 3; hierarchy++) {
            int hierarchyThen = hierarchy;
            add("primary " + hierarchy, () -> module.told(2, module.primary(hierarchyThen, 0)));
        }
        for (int x = 0; x < 4; x++) {
            int xThen = x;
            add("read " + x, () -> module.read(xThen));
            add("write " + x, () -> module.write(xThen, 0, 5));
        }
        add("define", () -> {
            module.define(3, true, 0);
            return module.write(3, 0, 0);
        });
    }

    private void add(String what, Supplier<Object> call) {
        text.append(what).append('=').append(Check.outcome(call)).append("; ");
    }
}

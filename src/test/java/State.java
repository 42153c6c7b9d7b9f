import java.util.ArrayList;
import java.util.List;
import java.util.function.Supplier;

/**
 * All that the face shows of an object, as lines of text. What cannot be looked at (words, marks, seeds, what sessions
 * remember, the greatest counted) is tried out, by several probes; as a probe uses its object up, each gets one of its
 * own. A probe makes fewer than 250 calls.
 */
final class State {
    private static final int[] TOLD_SIZES = {8, 8, 4, 32, 3};
    private static final int POWER_LEFT = 3;
    private static final int IS_LOST = 4;
    private static final int TIMES_LOST = 7;

    private final Supplier<TrustModule> make;
    private final boolean powerToo;
    private final List<String> lines = new ArrayList<>();
    private TrustModule module;

    private State(Supplier<TrustModule> make, boolean powerToo) {
        this.make = make;
        this.powerToo = powerToo;
    }

    static List<String> of(Supplier<TrustModule> make) {
        State state = new State(make, true);
        state.asItIs();
        state.afterPower();
        return state.lines;
    }

    /** What can be compared between an object that lost power and one that didn't. */
    static List<String> butPower(Supplier<TrustModule> make) {
        State state = new State(make, false);
        state.probe(state::look);
        state.afterPower();
        return state.lines;
    }

    static String difference(List<String> got, List<String> due) {
        for (int i = 0; i < due.size(); i++) {
            if (!got.get(i).equals(due.get(i))) {
                return got.get(i) + " instead of " + due.get(i);
            }
        }
        return "nothing";
    }

    private void asItIs() {
        probe(this::look);
        probe(this::guesses);
        probe(this::sessions);
        probe(() -> {
            add("extend", () -> module.extend(0, 0, 1));
            sessions();
        });
        probe(this::keys);
        probe(this::seeds);
    }

    private void afterPower() {
        probe(() -> {
            module.power(-1);
            look();
            guesses();
        });
        probe(() -> {
            module.power(-1);
            keys();
        });
        probe(() -> {
            module.power(-1);
            seeds();
        });
        probe(() -> {
            module.power(-1);
            store();
        });
    }

    private void probe(Runnable what) {
        module = make.get();
        what.run();
    }

    private void look() {
        for (int what = 0; what < TOLD_SIZES.length; what++) {
            for (int i = 0; i < TOLD_SIZES[what]; i++) {
                int whatThen = what;
                int iThen = i;
                add("told " + what + " " + i, () -> module.told(whatThen, iThen));
            }
        }
        for (int what = -1; what <= 8; what++) {
            int whatThen = what;
            if (powerToo || what != POWER_LEFT && what != IS_LOST && what != TIMES_LOST) {
                add("count " + what, () -> module.count(whatThen));
            }
        }
        add("rate", module::rate);
    }

    /** When each guess is forgiven tells the mark. */
    private void guesses() {
        for (int k = 0; k < 4; k++) {
            int kThen = k;
            add("open " + k, () -> module.open(kThen, 7));
        }
        add("clock", () -> module.clock(0, 0));
        for (int i = 0; i < 31; i++) {
            add("clock and guesses " + i, () -> module.clock(1, 0) + " " + module.count(1));
        }
        for (int k = 0; k < 4; k++) {
            int kThen = k;
            add("open again " + k, () -> module.open(kThen, 7));
        }
    }

    /** Each session unseals a key made for its own digest, unless it looked and the registers have changed. */
    private void sessions() {
        for (int s = 0; s < 3; s++) {
            int sThen = s;
            add("session " + s, () -> {
                long digest = module.either(sThen, module.told(4, sThen), 0);
                module.clear();
                module.create(module.primary(0, 0), 0, 5, 0, digest);
                return module.unseal(module.load(0, 0), sThen);
            });
        }
    }

    private void keys() {
        add("primary", () -> module.primary(0, 5));
        for (int k = 0; k < 4; k++) {
            for (int b = 0; b < 8; b++) {
                int kThen = k;
                int bThen = b;
                add("load " + k + " " + b, () -> {
                    int loaded = module.load(kThen, bThen);
                    long name = module.told(2, loaded);
                    module.flush(loaded);
                    return name;
                });
            }
        }
        for (int k = 0; k < 4; k++) {
            int kThen = k;
            add("create under " + k, () -> {
                module.create(kThen, 7, 3, 0, 0);
                return module.told(3, 31);
            });
        }
    }

    private void seeds() {
        for (int k = 0; k < 4; k++) {
            int kThen = k;
            add("flush " + k, () -> {
                module.flush(kThen);
                return "done";
            });
        }
        for (int hierarchy = 0; hierarchy < 3; hierarchy++) {
            int hierarchyThen = hierarchy;
            add("primary " + hierarchy, () -> module.told(2, module.primary(hierarchyThen, 0)));
        }
    }

    /** Session 1 is new; session 0 meets the policy of Modules. */
    private void store() {
        module.extend(0, 1, 9);
        for (int x = 0; x < 4; x++) {
            int xThen = x;
            add("read " + x, () -> module.read(xThen));
            add("write " + x, () -> module.write(xThen, 1, 50) + " " + module.read(xThen));
            module.session(0);
            module.pcr(0, 0, 2);
            add("write by policy " + x, () -> module.write(xThen, 0, 51) + " " + module.read(xThen));
            add("remove " + x, () -> {
                module.remove(xThen);
                return "done";
            });
            add("count " + x, () -> {
                module.define(xThen, true, 0);
                return module.write(xThen, 0, 0);
            });
        }
    }

    private void add(String what, Supplier<Object> call) {
        lines.add(what + ": " + Check.outcome(call));
    }
}

/** "An object is used for at most 512 calls after it has been made": all of them answer as promised. */
public final class LongRunTest {
    private static final int CALLS = 512;

    private LongRunTest() {
    }

    public static void main(String[] args) {
        Check.says("What it is", "at most 512 calls after it has been made");
        extended();
        counted();
        lost();
        clocked();
        refused();
        objectsAreApart();
        Check.end();
    }

    private static void extended() {
        TrustModule x = Modules.fresh();
        long pcr = 0;
        for (int i = 1; i < CALLS; i++) {
            pcr = Check.h(pcr, i);
            Check.is("extend " + i, x.extend(1, 3, i), pcr);
        }
        Check.is("the 512th call", x.count(2), CALLS - 1);
    }

    private static void counted() {
        TrustModule x = Modules.fresh();
        x.define(3, true, 0);
        for (int i = 1; i < CALLS; i++) {
            Check.is("write " + i, x.write(3, 0, 0), (long) i);
        }
    }

    private static void lost() {
        TrustModule x = Modules.fresh();
        for (int i = 1; i < CALLS / 2; i++) {
            x.power(1);
            Check.refused("define", Check.LOST, () -> x.define(0, true, 0));
        }
        Check.is("how often", x.count(7), CALLS / 2 - 1);
        x.power(-1);
    }

    private static void clocked() {
        TrustModule x = Modules.fresh();
        for (int i = 0; i < 6; i++) {
            x.clock(0, 1);
        }
        double rate = x.rate();
        double now = 0.0;
        for (int i = 7; i < CALLS; i++) {
            now = now + 100 * rate;
            Check.is("clock " + i, x.clock(100, 1), now);
        }
    }

    private static void refused() {
        TrustModule x = Modules.fresh();
        x.primary(0, 0);
        x.create(0, 0, 5, 6, 0);
        x.load(0, 0);
        for (int i = 0; i < 3; i++) {
            Check.refused("a wrong guess", Check.WRONG_GUESS, () -> x.open(1, 7));
        }
        for (int i = 6; i < CALLS - 1; i++) {
            Check.refused("locked", Check.LOCKED, () -> x.open(1, 6));
        }
        Check.is("guesses", x.count(1), 3);
    }

    private static void objectsAreApart() {
        Check.says("Promise 1", "A new object");
        TrustModule one = Modules.used();
        Check.same("a new object beside one that is used", () -> new TrustModule(1), Modules::fresh);
        TrustModule other = Modules.fresh();
        one.extend(0, 0, 1);
        one.write(1, 0, 0);
        Check.is("the other's pcr", other.told(0, 0), 0L);
        Check.is("the other's indices", other.count(5), 0);
        other.define(0, true, 0);
        Check.is("the other's counting", other.write(0, 0, 0), 1L);
        Check.same("the same calls, the same answers", Modules::used, Modules::used);
    }
}

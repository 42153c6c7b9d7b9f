/** Promise 20: clear. */
public final class ClearTest {
    private ClearTest() {
    }

    public static void main(String[] args) {
        whatGoes();
        ownerSeed();
        noWrongGuesses();
        whatStays();
        costsNoPower();
        clearOfNothing();
        Check.end();
    }

    private static void whatGoes() {
        Check.says("Promise 20", "all KEYS go, and all INDICES");
        TrustModule x = Modules.crowded();
        x.define(3, false, 1);
        x.clear();
        Check.is("keys", x.count(0), 0);
        Check.is("indices", x.count(5), 0);
        for (int i = 0; i < 4; i++) {
            int iThen = i;
            Check.refused("key " + i, Check.MISSING, () -> x.told(2, iThen));
            Check.refused("index " + i, Check.MISSING, () -> x.read(iThen));
            x.define(i, false, 0);
            Check.refused("defined anew, not written, " + i, Check.MISSING, () -> x.read(iThen));
            Check.is("without a policy", x.write(i, 0, 6), 6L);
        }
        for (int k = 0; k < 4; k++) {
            Check.is("handle", x.primary(1, 0), k);
        }
    }

    private static void ownerSeed() {
        Check.says("Promise 20", "The OWNER SEED becomes H(it, 4)");
        TrustModule x = Modules.full();
        x.clear();
        x.primary(0, 5);
        long seed = Check.h(Check.h(1, 0), 4);
        Check.is("once", x.told(2, 0), Check.nameOf(Check.h(seed, 5), 0, 0, 0));
        Check.refused("blobs of the old owner", Check.TAMPERED, () -> x.load(0, 0));
        x.clear();
        x.primary(0, 5);
        Check.is("twice", x.told(2, 0), Check.nameOf(Check.h(Check.h(seed, 4), 5), 0, 0, 0));
        x.primary(1, 5);
        Check.is("platform", x.told(2, 1), Check.nameOf(Check.h(Check.h(1, 1), 5), 0, 0, 0));
        x.primary(2, 5);
        Check.is("null", x.told(2, 2), Check.nameOf(Check.h(Check.h(Check.h(1, 2), 5), 5), 0, 0, 0));
    }

    private static void noWrongGuesses() {
        Check.says("Promise 20", "no WRONG GUESSES");
        TrustModule x = Modules.locked();
        x.clear();
        Check.is("guesses", x.count(1), 0);
        x.primary(0, 5);
        x.create(0, 0, 42, 7, 0);
        x.load(0, 0);
        Check.is("no longer locked", x.open(1, 7), 42L);
        Modules.guess(x);
        Check.is("counted from none", x.count(1), 1);
        x.clock(7, 0);
        Check.is("8.75 since", x.count(1), 1);
        x.clock(1, 0);
        Check.is("10.0 since", x.count(1), 0);
    }

    private static void whatStays() {
        Check.says("Promise 20", "clear");
        TrustModule x = Modules.used();
        long digest = x.told(4, 1);
        x.clear();
        Check.is("pcr", x.told(0, 1), Check.h(0, 9));
        Check.is("pcr count", x.count(2), 1);
        Check.is("session 0", x.told(4, 0), Modules.POLICY);
        Check.is("session 1", x.told(4, 1), digest);
        Check.is("blobs", x.count(6), 2);
        Check.is("power left", x.count(3), 50);
        Check.is("rate", x.rate(), 1.25);
        Check.is("clock", x.clock(0, 0), 5.5);
        x.define(0, true, Modules.POLICY);
        Check.is("the greatest counted, by the session", x.write(0, 0, 0), 2L);
    }

    private static void costsNoPower() {
        Check.says("Promise 20", "It costs no POWER");
        for (int units = 0; units < 4; units++) {
            TrustModule x = Modules.used(units);
            x.clear();
            Check.is("indices", x.count(5), 0);
            Check.is("left", x.count(3), units);
            Check.is("not lost", x.count(4), 0);
        }
    }

    private static void clearOfNothing() {
        Check.says("Promise 20", "The OWNER SEED becomes H(it, 4)");
        TrustModule x = Modules.fresh();
        x.clear();
        Check.is("keys", x.count(0), 0);
        Check.is("without limit", x.count(3), -1);
        x.primary(0, 5);
        Check.is("seed", x.told(2, 0), Check.nameOf(Check.h(Check.h(Check.h(1, 0), 4), 5), 0, 0, 0));
    }
}

/** Promise 20: clear. */
public final class ClearTest {
    private ClearTest() {
    }

    public static void main(String[] args) {
        whatGoes();
        ownerSeed();
        whatStays();
        costsNoPower();
        Check.refusedUnchanged("clear when lost", Modules::lost, Check.LOST, TrustModule::clear);
        Check.end();
    }

    private static void whatGoes() {
        TrustModule x = Modules.locked();
        x.define(2, true, 0);
        x.define(3, false, 1);
        x.clear();
        Check.is("keys", x.count(0), 0);
        Check.is("guesses", x.count(1), 0);
        Check.is("indices", x.count(5), 0);
        Check.refused("a cell", Check.MISSING, () -> x.read(0));
        Check.refused("a key", Check.MISSING, () -> x.told(2, 1));
        x.define(0, false, 0);
        Check.refused("defined anew, not written", Check.MISSING, () -> x.read(0));
    }

    private static void ownerSeed() {
        TrustModule x = Modules.full();
        x.clear();
        x.primary(0, 5);
        long seed = Check.h(Check.h(1, 0), 4);
        Check.is("once", x.told(2, 0), Check.nameOf(Check.h(seed, 5), 0, 0, 0));
        Check.refused("blobs of the old owner", Check.TAMPERED, () -> x.load(0, 0));
        x.clear();
        x.primary(0, 5);
        Check.is("twice", x.told(2, 0), Check.nameOf(Check.h(Check.h(seed, 4), 5), 0, 0, 0));
        x.primary(1, 5);
        Check.is("platform", x.told(2, 1), Check.nameOf(Check.h(Check.h(1, 1), 5), 0, 0, 0));
        x.primary(2, 5);
        Check.is("null", x.told(2, 2), Check.nameOf(Check.h(Check.h(Check.h(1, 2), 5), 5), 0, 0, 0));
    }

    private static void whatStays() {
        TrustModule x = Modules.full();
        x.clock(4, 1);
        long digest = x.told(4, 0);
        x.clear();
        Check.is("pcr", x.told(0, 1), Check.h(0, 9));
        Check.is("pcr count", x.count(2), 1);
        Check.is("session", x.told(4, 0), digest);
        Check.is("blobs", x.count(6), 2);
        Check.is("rate", x.rate(), 1.25);
        Check.is("clock", x.clock(0, 0), 4.0);
        x.define(0, true, digest);
        Check.is("the greatest counted, by the session", x.write(0, 0, 0), 2L);
    }

    private static void costsNoPower() {
        TrustModule x = Modules.full();
        x.power(0);
        x.clear();
        Check.is("indices", x.count(5), 0);
        Check.is("left", x.count(3), 0);
        Check.is("not lost", x.count(4), 0);
    }
}

/** Promises 4 and 8: primary and flush, and the names of primary keys. */
public final class KeysTest {
    private KeysTest() {
    }

    public static void main(String[] args) {
        primaryKeys();
        leastFreeHandle();
        primaryRefused();
        flushed();
        flushRefused();
        Check.end();
    }

    private static void primaryKeys() {
        TrustModule x = new TrustModule(4);
        Check.is("first", x.primary(0, -8), 0);
        Check.is("second", x.primary(1, -8), 1);
        Check.is("same as the first", x.primary(0, -8), 2);
        Check.is("another template", x.primary(0, 8), 3);
        Check.is("name", x.told(2, 0), Check.nameOf(Check.h(Check.h(4, 0), -8), 0, 0, 0));
        Check.is("platform", x.told(2, 1), Check.nameOf(Check.h(Check.h(4, 1), -8), 0, 0, 0));
        Check.is("the same name", x.told(2, 2), x.told(2, 0));
        Check.is("another name", x.told(2, 3), Check.nameOf(Check.h(Check.h(4, 0), 8), 0, 0, 0));
        Check.is("secret", x.open(0, 123), 0L);
        x.create(0, 0, 1, 0, 0);
        Check.refused("no policy", Check.FORBIDDEN, () -> x.unseal(0, 0));
    }

    private static void leastFreeHandle() {
        TrustModule x = Modules.crowded();
        x.flush(2);
        x.flush(1);
        Check.is("the least", x.primary(1, 0), 1);
        Check.is("the other", x.primary(2, 0), 2);
        Check.refused("none", Check.NO_ROOM, () -> x.primary(0, 0));
    }

    private static void primaryRefused() {
        for (int hierarchy : new int[] {-1, 3}) {
            Check.refusedUnchanged("hierarchy " + hierarchy, Modules::full, Check.BAD, x -> x.primary(hierarchy, 0));
            Check.refusedUnchanged("bad before no room", Modules::crowded, Check.BAD, x -> x.primary(hierarchy, 0));
        }
        Check.refusedUnchanged("no room", Modules::crowded, Check.NO_ROOM, x -> x.primary(0, 0));
        Check.refusedUnchanged("primary when lost", Modules::lost, Check.LOST, x -> x.primary(0, 0));
    }

    private static void flushed() {
        TrustModule x = Modules.crowded();
        x.flush(3);
        Check.is("three left", x.count(0), 3);
        x.flush(0);
        Check.is("two left", x.count(0), 2);
        Check.refused("no name", Check.MISSING, () -> x.told(2, 0));
        Check.refused("no secret", Check.MISSING, () -> x.open(0, 0));
        Check.is("children stay", x.open(1, 7), 42L);
    }

    private static void flushRefused() {
        for (int k : new int[] {-1, 4}) {
            Check.refusedUnchanged("flush " + k, Modules::crowded, Check.BAD, x -> x.flush(k));
        }
        Check.refusedUnchanged("flush a free handle", Modules::full, Check.MISSING, x -> x.flush(3));
        Check.refusedUnchanged("flush when lost", Modules::lost, Check.LOST, x -> x.flush(3));
    }
}

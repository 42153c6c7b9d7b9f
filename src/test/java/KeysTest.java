/** Promises 4 and 8: primary and flush, and the names of primary keys. */
public final class KeysTest {
    private KeysTest() {
    }

    public static void main(String[] args) {
        primaryKeys();
        whatAPrimaryKeyHas();
        leastFreeHandle();
        leastFreeOfEachKind();
        flushed();
        Check.end();
    }

    private static void primaryKeys() {
        Check.says("Terms", "A PRIMARY KEY, of a HIERARCHY with a TEMPLATE t: VALUE H(SEED, t)");
        long[] seeds = {Check.h(4, 0), Check.h(4, 1), Check.h(Check.h(4, 2), 5)};
        for (int hierarchy = 0; hierarchy < 3; hierarchy++) {
            for (long template : new long[] {0, 8, -8, -1, Long.MIN_VALUE, Long.MAX_VALUE}) {
                TrustModule x = new TrustModule(4);
                Check.is("handle", x.primary(hierarchy, template), 0);
                Check.is("name of " + hierarchy + " " + template, x.told(2, 0),
                        Check.nameOf(Check.h(seeds[hierarchy], template), 0, 0, 0));
                Check.is("the same again", x.primary(hierarchy, template), 1);
                Check.is("its name", x.told(2, 1), x.told(2, 0));
            }
        }
    }

    private static void whatAPrimaryKeyHas() {
        Check.says("Terms", "WORD 0, no POLICY, SECRET 0, PARENT");
        for (int hierarchy = 0; hierarchy < 3; hierarchy++) {
            TrustModule x = Modules.fresh();
            int k = x.primary(hierarchy, 123);
            for (int word : new int[] {0, 123, -1, Integer.MIN_VALUE, Integer.MAX_VALUE}) {
                Check.is("secret, for any word", x.open(k, word), 0L);
            }
            Check.refused("no policy", Check.FORBIDDEN, () -> x.unseal(k, 0));
            x.create(k, 0, 1, 0, 0);
            Check.is("parent", x.load(k, 0), 1);
        }
    }

    private static void leastFreeHandle() {
        Check.says("Promise 4", "in the least free HANDLE; none: no room");
        TrustModule x = Modules.fresh();
        for (int k = 0; k < 4; k++) {
            Check.is("handle", x.primary(0, k), k);
            Check.is("keys", x.count(0), k + 1);
        }
        Check.refused("none", Check.NO_ROOM, () -> x.primary(0, 4));
        Check.is("keys", x.count(0), 4);
        for (int k = 0; k < 4; k++) {
            x.flush(k);
            Check.is("the one that is free", x.primary(1, 0), k);
        }
        x.flush(3);
        x.flush(1);
        Check.is("the least of 1 and 3", x.primary(1, 0), 1);
        Check.is("the other", x.primary(2, 0), 3);
        Check.refused("none again", Check.NO_ROOM, () -> x.primary(0, 0));
    }

    private static void leastFreeOfEachKind() {
        Check.says("Terms", "Else it gets the least free HANDLE");
        TrustModule x = Modules.crowded();
        x.flush(3);
        x.flush(2);
        x.flush(1);
        Check.is("the least of 1, 2 and 3", x.load(0, 1), 1);
        Check.is("the least of 2 and 3", x.load(0, 0), 2);
        Check.is("the last", x.load(0, 1), 3);
        Check.refused("none", Check.NO_ROOM, () -> x.load(0, 1));
        x.flush(0);
        x.create(2, 0, 6, 0, 0);
        Check.is("below its parent", x.load(2, 0), 0);
    }

    private static void flushed() {
        Check.says("Promise 8", "HANDLE k is free");
        for (int k = 0; k < 4; k++) {
            int kThen = k;
            TrustModule x = Modules.crowded();
            x.flush(k);
            Check.is("three left", x.count(0), 3);
            Check.refused("no name", Check.MISSING, () -> x.told(2, kThen));
            Check.refused("no secret", Check.MISSING, () -> x.open(kThen, 7));
            for (int other = 0; other < 4; other++) {
                if (other != k) {
                    Check.is("the others stay", x.told(2, other), Modules.crowded().told(2, other));
                }
            }
        }
        TrustModule x = Modules.full();
        x.flush(0);
        Check.is("children stay", x.open(1, 7), 42L);
        Check.is("blobs stay", x.count(6), 2);
    }
}

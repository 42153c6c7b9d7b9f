/** Promises 5, 6 and 7: create, load and tamper. */
public final class BlobsTest {
    private static final long PARENT = Check.h(Check.h(1, 0), 5);

    private BlobsTest() {
    }

    public static void main(String[] args) {
        blob(42, 7, 0);
        blob(-43, -7, -9);
        blob(Long.MIN_VALUE, Integer.MIN_VALUE, Long.MAX_VALUE);
        blob(0, 0, 1);
        createRefused();
        overwritten();
        loaded();
        parents();
        loadRefused();
        loadOrder();
        lowerBitsOfTheWord();
        tampered();
        tamperRefused();
        tamperedWhenLost();
        otherParent();
        Check.end();
    }

    private static void blob(long secret, int word, long policy) {
        TrustModule x = Modules.fresh();
        x.primary(0, 5);
        x.create(0, 7, secret, word, policy);
        long zero = secret ^ Check.h(PARENT, 1);
        long one = word ^ Check.h(PARENT, 2);
        long three = Check.h(Check.h(PARENT, 3), Check.h(Check.h(zero, one), policy));
        Check.is("secret", x.told(3, 28), zero);
        Check.is("word", x.told(3, 29), one);
        Check.is("policy", x.told(3, 30), policy);
        Check.is("seal", x.told(3, 31), three);
        Check.is("blobs", x.count(6), 1);
        Check.is("handles", x.count(0), 1);
        Check.is("loaded", x.load(0, 7), 1);
        Check.is("name", x.told(2, 1), Check.nameOf(Check.h(PARENT, three), word, policy, secret));
        Check.is("opened", x.open(1, word), secret);
    }

    private static void createRefused() {
        for (int p : new int[] {-1, 4}) {
            Check.refusedUnchanged("create under " + p, Modules::full, Check.BAD, x -> x.create(p, 2, 1, 1, 1));
        }
        for (int b : new int[] {-1, 8}) {
            Check.refusedUnchanged("create blob " + b, Modules::full, Check.BAD, x -> x.create(0, b, 1, 1, 1));
            Check.refusedUnchanged("bad before missing", Modules::full, Check.BAD, x -> x.create(3, b, 1, 1, 1));
            Check.refusedUnchanged("bad before forbidden", Modules::full, Check.BAD, x -> x.create(2, b, 1, 1, 1));
        }
        Check.refusedUnchanged("create when lost", Modules::lost, Check.LOST, x -> x.create(0, 0, 1, 1, 1));
        Check.refusedUnchanged("create under none", Modules::full, Check.MISSING, x -> x.create(3, 0, 1, 1, 1));
        Check.refusedUnchanged("create under no parent", Modules::full, Check.FORBIDDEN,
                x -> x.create(2, 0, 1, 1, 1));
    }

    private static void overwritten() {
        TrustModule x = Modules.full();
        x.create(0, 0, 12, 0, 0);
        Check.is("blobs", x.count(6), 2);
        Check.is("loaded", x.load(0, 0), 3);
        Check.is("the new secret", x.open(3, 1), 12L);
        Check.is("the key of the old one", x.open(1, 7), 42L);
    }

    private static void loaded() {
        TrustModule x = Modules.crowded();
        x.flush(1);
        Check.is("the least free handle", x.load(0, 1), 1);
        Check.is("the same twice", x.told(2, 1), x.told(2, 2));
    }

    private static void parents() {
        TrustModule x = Modules.full();
        x.create(1, 2, -2, 3, 0);
        Check.is("under a child", x.load(1, 2), 3);
        long child = Check.h(PARENT, x.told(3, 3));
        Check.is("grandchild", x.told(2, 3), Check.nameOf(Check.h(child, x.told(3, 11)), 3, 0, -2));
        x.flush(1);
        x.create(3, 3, -1, 0, 0);
        Check.is("an even negative secret is a parent", x.load(3, 3), 1);
        Check.refused("an odd negative secret is none", Check.FORBIDDEN, () -> x.create(1, 4, 0, 0, 0));
        Check.refused("nothing is loaded under it", Check.FORBIDDEN, () -> x.load(1, 3));
    }

    private static void loadRefused() {
        for (int p : new int[] {-1, 4}) {
            Check.refusedUnchanged("load under " + p, Modules::full, Check.BAD, x -> x.load(p, 0));
        }
        for (int b : new int[] {-1, 8}) {
            Check.refusedUnchanged("load blob " + b, Modules::full, Check.BAD, x -> x.load(0, b));
        }
        Check.refusedUnchanged("load when lost", Modules::lost, Check.LOST, x -> x.load(0, 0));
        Check.refusedUnchanged("load under none", Modules::full, Check.MISSING, x -> x.load(3, 0));
        Check.refusedUnchanged("load no blob", Modules::full, Check.MISSING, x -> x.load(0, 7));
        Check.refusedUnchanged("load under no parent", Modules::full, Check.FORBIDDEN, x -> x.load(2, 0));
        Check.refusedUnchanged("load with no room", Modules::crowded, Check.NO_ROOM, x -> x.load(0, 0));
        for (int i = 0; i < 4; i++) {
            int iThen = i;
            Check.refusedUnchanged("load tampered " + i, () -> tamperedFull(iThen), Check.TAMPERED,
                    x -> x.load(0, 0));
        }
    }

    private static TrustModule tamperedFull(int i) {
        TrustModule x = Modules.full();
        x.tamper(0, i, 1L << 40);
        return x;
    }

    private static void loadOrder() {
        Check.refused("bad before missing", Check.BAD, () -> Modules.full().load(3, 8));
        Check.refused("no blob before no parent", Check.MISSING, () -> Modules.full().load(2, 7));
        TrustModule x = Modules.crowded();
        x.tamper(0, 0, 1);
        Check.refused("no parent before tampered", Check.FORBIDDEN, () -> x.load(2, 0));
        Check.refused("tampered before no room", Check.TAMPERED, () -> x.load(0, 0));
    }

    /** The upper half of long 1 changed, with the seal made anew by one who knows the parent's VALUE. */
    private static void lowerBitsOfTheWord() {
        TrustModule x = Modules.full();
        x.tamper(0, 1, 0xABCDEF01L << 32);
        long seal = Check.h(Check.h(PARENT, 3), Check.h(Check.h(x.told(3, 0), x.told(3, 1)), x.told(3, 2)));
        x.tamper(0, 3, x.told(3, 3) ^ seal);
        Check.is("loaded", x.load(0, 0), 3);
        Check.is("its word", x.open(3, 7), 42L);
        Check.is("its name", x.told(2, 3), Check.nameOf(Check.h(PARENT, seal), 7, 0, 42));
    }

    private static void tampered() {
        TrustModule x = Modules.full();
        for (int i = 0; i < 4; i++) {
            long before = x.told(3, 4 + i);
            x.tamper(1, i, -5);
            Check.is("changed", x.told(3, 4 + i), before ^ -5);
            Check.refused("tampered", Check.TAMPERED, () -> x.load(0, 1));
            x.tamper(1, i, -5);
            Check.is("changed back", x.told(3, 4 + i), before);
        }
        x.tamper(1, 2, 0);
        Check.is("nothing changed", x.load(0, 1), 3);
    }

    private static void tamperRefused() {
        for (int b : new int[] {-1, 8}) {
            Check.refusedUnchanged("tamper with blob " + b, Modules::full, Check.BAD, x -> x.tamper(b, 0, 1));
        }
        for (int i : new int[] {-1, 4}) {
            Check.refusedUnchanged("tamper with long " + i, Modules::full, Check.BAD, x -> x.tamper(0, i, 1));
            Check.refusedUnchanged("bad before missing", Modules::full, Check.BAD, x -> x.tamper(5, i, 1));
        }
        Check.refusedUnchanged("tamper with none", Modules::full, Check.MISSING, x -> x.tamper(2, 0, 1));
        Check.refusedUnchanged("none when lost", Modules::lost, Check.MISSING, x -> x.tamper(2, 0, 1));
    }

    private static void tamperedWhenLost() {
        TrustModule x = Modules.lost();
        long before = x.told(3, 0);
        x.tamper(0, 0, 6);
        Check.is("changed when lost", x.told(3, 0), before ^ 6);
    }

    private static void otherParent() {
        TrustModule x = Modules.crowded();
        x.flush(2);
        Check.refused("under another primary key", Check.TAMPERED, () -> x.load(3, 0));
        Check.refused("under itself", Check.TAMPERED, () -> x.load(1, 0));
        Check.is("under its own", x.load(0, 0), 2);
    }
}

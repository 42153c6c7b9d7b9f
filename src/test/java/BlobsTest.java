/** Promises 5, 6 and 7: create, load and tamper. */
public final class BlobsTest {
    private static final long PARENT = Check.h(Check.h(1, 0), 5);

    private BlobsTest() {
    }

    public static void main(String[] args) {
        blobs();
        overwritten();
        outside();
        evenSecretsAreParents();
        grandchildren();
        lowerBitsOfTheWord();
        tampered();
        tamperedWhenLost();
        otherParent();
        resealed();
        Check.end();
    }

    private static void blobs() {
        long[] longs = {0, 1, -1, 42, Long.MIN_VALUE, Long.MAX_VALUE};
        int[] words = {0, 1, -1, 7, Integer.MIN_VALUE, Integer.MAX_VALUE};
        for (int i = 0; i < longs.length; i++) {
            for (int j = 0; j < words.length; j++) {
                blob((i + j) % 8, longs[i], words[j], longs[(i + j) % longs.length]);
            }
        }
    }

    private static void blob(int b, long secret, int word, long policy) {
        Check.says("Terms", "BLOBS 0 .. 7, outside, are none or four longs");
        TrustModule x = Modules.fresh();
        x.primary(0, 5);
        x.create(0, b, secret, word, policy);
        long zero = secret ^ Check.h(PARENT, 1);
        long one = (long) word ^ Check.h(PARENT, 2);
        long three = Check.h(Check.h(PARENT, 3), Check.h(Check.h(zero, one), policy));
        String what = secret + " " + word + " " + policy;
        Check.is("long 0 of " + what, x.told(3, b * 4), zero);
        Check.is("long 1 of " + what, x.told(3, b * 4 + 1), one);
        Check.is("long 2 of " + what, x.told(3, b * 4 + 2), policy);
        Check.is("long 3 of " + what, x.told(3, b * 4 + 3), three);
        Check.is("blobs", x.count(6), 1);
        Check.is("handles", x.count(0), 1);
        Check.says("Terms", "SECRET, WORD (the lower 32 bits) and POLICY as they were");
        Check.is("loaded", x.load(0, b), 1);
        Check.is("name of " + what, x.told(2, 1), Check.nameOf(Check.h(PARENT, three), word, policy, secret));
        Check.is("opened", x.open(1, word), secret);
        if (word != 0) {
            Check.refused("opened by one less", Check.WRONG_GUESS, () -> x.open(1, word - 1));
            Check.refused("opened by 0", Check.WRONG_GUESS, () -> x.open(1, 0));
        }
    }

    private static void overwritten() {
        Check.says("Promise 5", "BLOB b becomes that of a SECRET, WORD and POLICY");
        TrustModule x = Modules.full();
        x.create(0, 0, 12, 0, 0);
        Check.is("blobs", x.count(6), 2);
        Check.is("loaded", x.load(0, 0), 3);
        Check.is("the new secret", x.open(3, 1), 12L);
        Check.is("the key of the old one", x.open(1, 7), 42L);
        for (int b = 0; b < 8; b++) {
            x.create(0, b, 2 * b, b, 0);
            Check.is("blobs", x.count(6), b < 2 ? 2 : b + 1);
        }
        x.create(0, 7, 1, 1, 1);
        Check.is("eight are all", x.count(6), 8);
        x.flush(3);
        for (int b = 0; b < 7; b++) {
            x.load(0, b);
            Check.is("blob " + b, x.open(3, b), 2L * b);
            x.flush(3);
        }
    }

    private static void outside() {
        Check.says("Terms", "BLOBS 0 .. 7, outside");
        TrustModule x = Modules.used();
        x.create(0, 7, 6, 0, 0);
        x.power(-1);
        Check.is("they stay when power comes", x.count(6), 3);
        x.primary(0, 5);
        Check.is("and are loaded", x.load(0, 7), 1);
        x.clear();
        Check.is("they stay when cleared", x.count(6), 3);
    }

    private static void evenSecretsAreParents() {
        Check.says("Terms", "PARENT exactly if the SECRET is even");
        for (long secret : new long[] {0, 2, -2, 42, Long.MIN_VALUE, Long.MAX_VALUE - 1}) {
            TrustModule x = withSecret(secret);
            x.create(1, 1, 3, 0, 0);
            Check.is(secret + " is a parent", x.load(1, 1), 2);
        }
        for (long secret : new long[] {1, -1, 43, Long.MIN_VALUE + 1, Long.MAX_VALUE}) {
            TrustModule x = withSecret(secret);
            Check.refused(secret + " creates nothing", Check.FORBIDDEN, () -> x.create(1, 1, 3, 0, 0));
            Check.refused(secret + " loads nothing", Check.FORBIDDEN, () -> x.load(1, 0));
        }
    }

    private static TrustModule withSecret(long secret) {
        TrustModule x = Modules.fresh();
        x.primary(0, 5);
        x.create(0, 0, secret, 0, 0);
        x.load(0, 0);
        return x;
    }

    private static void grandchildren() {
        Check.says("Terms", "VALUE H(the parent's VALUE, long 3)");
        TrustModule x = Modules.full();
        x.create(1, 2, -2, 3, 0);
        Check.is("under a child", x.load(1, 2), 3);
        long child = Check.h(PARENT, x.told(3, 3));
        Check.is("grandchild", x.told(2, 3), Check.nameOf(Check.h(child, x.told(3, 11)), 3, 0, -2));
    }

    /** Long 1 changed, with the seal made anew by one who knows the parent's VALUE. */
    private static void lowerBitsOfTheWord() {
        Check.says("Terms", "WORD (the lower 32 bits)");
        for (long upper : new long[] {1L << 32, 0xABCDEF01L << 32, -1L << 32, Long.MIN_VALUE}) {
            TrustModule x = Modules.full();
            x.tamper(0, 1, upper);
            long seal = reseal(x, 0);
            Check.is("loaded", x.load(0, 0), 3);
            Check.is("its word", x.open(3, 7), 42L);
            Check.is("its name", x.told(2, 3), Check.nameOf(Check.h(PARENT, seal), 7, 0, 42));
            Check.refused("another word", Check.WRONG_GUESS, () -> x.open(3, 0));
        }
        Check.says("Terms", "a KEY with WORD 0 takes every WORD");
        TrustModule x = Modules.locked();
        x.tamper(0, 1, 1L << 32 | 7);
        long seal = reseal(x, 0);
        Check.is("loaded", x.load(0, 0), 3);
        Check.is("its name", x.told(2, 3), Check.nameOf(Check.h(PARENT, seal), 0, 0, 42));
        Check.is("0 in the lower bits alone", x.open(3, 99), 42L);
    }

    private static long reseal(TrustModule x, int b) {
        long seal = Check.h(Check.h(PARENT, 3),
                Check.h(Check.h(x.told(3, b * 4), x.told(3, b * 4 + 1)), x.told(3, b * 4 + 2)));
        x.tamper(b, 3, x.told(3, b * 4 + 3) ^ seal);
        return seal;
    }

    private static void tampered() {
        Check.says("Promise 7", "Long i (0 .. 3) of BLOB b ... becomes it XOR v");
        for (long v : new long[] {1, -5, -1, Long.MIN_VALUE, Long.MAX_VALUE}) {
            TrustModule x = Modules.full();
            for (int i = 0; i < 4; i++) {
                long before = x.told(3, 4 + i);
                x.tamper(1, i, v);
                Check.is("changed", x.told(3, 4 + i), before ^ v);
                Check.is("the other blob stays", x.told(3, i), Modules.full().told(3, i));
                Check.refused("tampered", Check.TAMPERED, () -> x.load(0, 1));
                x.tamper(1, i, v);
                Check.is("changed back", x.told(3, 4 + i), before);
            }
            x.tamper(1, 2, 0);
            Check.is("nothing changed", x.load(0, 1), 3);
            Check.is("the key of before stays", x.unseal(2, 0), 43L);
        }
    }

    private static void tamperedWhenLost() {
        Check.says("Promise 7", "outside, also when LOST");
        for (int i = 0; i < 4; i++) {
            TrustModule x = Modules.lost();
            long before = x.told(3, i);
            x.tamper(0, i, 6);
            Check.is("changed", x.told(3, i), before ^ 6);
            Check.is("still lost", x.count(4), 1);
            x.power(-1);
            Check.is("changed after power came", x.told(3, i), before ^ 6);
            x.primary(0, 5);
            Check.refused("tampered", Check.TAMPERED, () -> x.load(0, 0));
        }
    }

    private static void otherParent() {
        Check.says("Terms", "LOADING one under a parent whose H doesn't give its long 3: TAMPERED");
        TrustModule x = Modules.crowded();
        x.flush(2);
        Check.refused("under another primary key", Check.TAMPERED, () -> x.load(3, 0));
        Check.refused("under itself", Check.TAMPERED, () -> x.load(1, 0));
        Check.is("under its own", x.load(0, 0), 2);
    }

    private static void resealed() {
        Check.says("Terms", "SECRET, WORD (the lower 32 bits) and POLICY as they were");
        TrustModule x = Modules.full();
        x.tamper(0, 0, 1);
        x.tamper(0, 2, 9);
        long seal = reseal(x, 0);
        Check.is("its H gives long 3", x.load(0, 0), 3);
        Check.is("as the blob now says", x.told(2, 3), Check.nameOf(Check.h(PARENT, seal), 7, 9, 43));
        Check.refused("an odd secret now", Check.FORBIDDEN, () -> x.create(3, 0, 1, 1, 1));
    }
}

/** Promises 21 and 22: told and count. */
public final class LookingTest {
    private LookingTest() {
    }

    public static void main(String[] args) {
        toldPcrs();
        toldNames();
        toldBlobs();
        toldDigests();
        eachCount();
        keysAndBlobsFromNoneToFull();
        Check.end();
    }

    private static void toldPcrs() {
        Check.says("Promise 21", "PCR i (0 .. 7) of BANK 0 (what 0) or 1 (1)");
        TrustModule x = Modules.fresh();
        for (int i = 0; i < 8; i++) {
            x.extend(0, i, i);
            x.extend(1, i, -i - 1);
        }
        for (int i = 0; i < 8; i++) {
            Check.is("bank 0 pcr " + i, x.told(0, i), Check.h(0, i));
            Check.is("bank 1 pcr " + i, x.told(1, i), Check.h(0, -i - 1));
        }
    }

    private static void toldNames() {
        Check.says("Promise 21", "the NAME of HANDLE i (0 .. 3; 2)");
        TrustModule x = Modules.fresh();
        for (int k = 0; k < 4; k++) {
            x.primary(1, k);
        }
        for (int k = 0; k < 4; k++) {
            Check.is("handle " + k, x.told(2, k), Check.nameOf(Check.h(Check.h(1, 1), k), 0, 0, 0));
        }
    }

    private static void toldBlobs() {
        Check.says("Promise 21", "long i modulo 4 of BLOB i / 4 (0 .. 31; 3)");
        TrustModule x = Modules.fresh();
        x.primary(0, 5);
        long parent = Check.h(Check.h(1, 0), 5);
        for (int b = 0; b < 8; b++) {
            x.create(0, b, b, -b, 100 + b);
        }
        for (int b = 0; b < 8; b++) {
            long zero = b ^ Check.h(parent, 1);
            long one = -b ^ Check.h(parent, 2);
            Check.is("long 0 of " + b, x.told(3, b * 4), zero);
            Check.is("long 1 of " + b, x.told(3, b * 4 + 1), one);
            Check.is("long 2 of " + b, x.told(3, b * 4 + 2), 100L + b);
            Check.is("long 3 of " + b, x.told(3, b * 4 + 3),
                    Check.h(Check.h(parent, 3), Check.h(Check.h(zero, one), 100 + b)));
        }
    }

    private static void toldDigests() {
        Check.says("Promise 21", "the DIGEST of SESSION i (0 .. 2; 4)");
        TrustModule x = Modules.fresh();
        for (int s = 0; s < 3; s++) {
            x.either(s, 0, s);
        }
        for (int s = 0; s < 3; s++) {
            Check.is("session " + s, x.told(4, s), Check.h(12, Check.h(0, s)));
        }
    }

    private static void eachCount() {
        Check.says("Promise 22", "count");
        TrustModule x = Modules.crowded();
        x.extend(0, 0, 0);
        x.extend(0, 0, 0);
        x.create(0, 7, 0, 0, 0);
        x.create(0, 6, 0, 0, 0);
        x.create(0, 5, 0, 0, 0);
        int[] due = {4, 1, 3, 50, 0, 3, 5, 0};
        for (int what = 0; what < due.length; what++) {
            Check.is("count " + what, x.count(what), due[what]);
        }
        Check.says("Promise 22", "POWER left, -1 without limit (3)");
        x.power(100);
        Check.is("100", x.count(3), 100);
        x.power(-1);
        Check.is("without limit", x.count(3), -1);
        Check.says("Promise 22", "1 if LOST, else 0 (4)");
        x.power(0);
        Check.is("not lost", x.count(4), 0);
        Check.refused("lost", Check.LOST, () -> x.remove(0));
        Check.is("lost", x.count(4), 1);
    }

    private static void keysAndBlobsFromNoneToFull() {
        Check.says("Promise 22", "HANDLES with KEYS (0) ... BLOBS (6)");
        TrustModule x = Modules.fresh();
        for (int i = 0; i < 8; i++) {
            Check.is("keys", x.count(0), i < 4 ? i : 4);
            if (i < 4) {
                x.primary(0, i);
            }
            Check.is("blobs", x.count(6), i);
            x.create(0, 7 - i, 1, 1, 1);
        }
        Check.is("all blobs", x.count(6), 8);
        for (int k = 3; k >= 0; k--) {
            x.flush(k);
            Check.is("keys left", x.count(0), k);
        }
        Check.is("blobs stay", x.count(6), 8);
    }
}

/** Promises 10 to 14: unseal, session, pcr, either and with. */
public final class SessionsTest {
    private SessionsTest() {
    }

    public static void main(String[] args) {
        unsealed();
        policiesOfAllSizes();
        notLooked();
        lookedWithNoneExtended();
        lookedAgain();
        lookedAtOneBankOnly();
        lookingIsForgottenAnew();
        lookingIsKept();
        begunAnew();
        pcrDigest();
        pcrInOrder();
        eitherDigest();
        withDigest();
        sessionsAreApart();
        Check.end();
    }

    private static void unsealed() {
        Check.says("Promise 10", "The SECRET of HANDLE k ... for SESSION s");
        for (int s = 0; s < 3; s++) {
            int sThen = s;
            TrustModule x = Modules.full();
            x.session(0);
            Check.is("the policy", x.pcr(s, 0, 2), Modules.POLICY);
            Check.is("secret", x.unseal(2, s), 43L);
            Check.says("Terms", "when the call is done the SESSION begins anew");
            Check.is("digest", x.told(4, s), 0L);
            Check.refused("once only", Check.FORBIDDEN, () -> x.unseal(2, sThen));
        }
    }

    private static void policiesOfAllSizes() {
        Check.says("Terms", "POLICY (a long, 0 for none)");
        for (long policy : new long[] {0, 1, -1, Long.MIN_VALUE, Long.MAX_VALUE}) {
            TrustModule x = Modules.fresh();
            x.primary(0, 0);
            x.create(0, 0, 8, 0, policy);
            x.load(0, 0);
            Check.refused("the digest 0 for " + policy, Check.FORBIDDEN, () -> x.unseal(1, 0));
        }
    }

    private static TrustModule keyFor(TrustModule x, long policy) {
        x.create(0, 2, 6, 0, policy);
        x.load(0, 2);
        return x;
    }

    private static void notLooked() {
        Check.says("Terms", "if it has looked at PCRS");
        TrustModule x = Modules.full();
        keyFor(x, x.with(1, 0, 0));
        x.extend(0, 0, 0);
        Check.is("by with it hasn't", x.unseal(3, 1), 6L);
        TrustModule y = Modules.full();
        keyFor(y, y.either(1, 0, 4));
        y.extend(0, 0, 0);
        Check.is("by either it hasn't", y.unseal(3, 1), 6L);
    }

    private static void lookedWithNoneExtended() {
        Check.says("Terms", "the PCR COUNT must be what it was when it last did");
        TrustModule x = Modules.fresh();
        x.primary(0, 0);
        long digest = x.pcr(0, 0, 1);
        Check.is("the same in another session", x.pcr(1, 0, 1), digest);
        keyFor(x, digest);
        Check.is("0 and 0", x.unseal(1, 1), 6L);
        x.extend(1, 7, 0);
        Check.refused("0 and 1", Check.CHANGED, () -> x.unseal(1, 0));
        x.session(0);
        Check.is("looked anew", x.pcr(0, 0, 1), digest);
        Check.is("1 and 1", x.unseal(1, 0), 6L);
    }

    private static void lookedAgain() {
        Check.says("Terms", "when it last did");
        TrustModule x = Modules.fresh();
        x.primary(0, 0);
        long first = x.pcr(0, 0, 1);
        x.extend(1, 0, 1);
        long second = x.pcr(0, 0, 1);
        Check.is("digest of two looks", second, Check.h(Check.h(first, 11), Check.h(0, 0)));
        keyFor(x, second);
        Check.is("the last look counts", x.unseal(1, 0), 6L);
    }

    private static void lookedAtOneBankOnly() {
        Check.says("Terms", "The PCR COUNT is how many were EXTENDED");
        for (int i = 0; i < 16; i++) {
            TrustModule x = Modules.full();
            x.extend(i / 8, i % 8, 1);
            Check.refused("bank " + i / 8 + " pcr " + i % 8, Check.CHANGED, () -> x.unseal(2, 0));
        }
    }

    private static void lookingIsForgottenAnew() {
        Check.says("Promise 11", "SESSION s begins anew");
        TrustModule x = Modules.full();
        x.session(0);
        keyFor(x, x.with(0, 0, 0));
        x.extend(0, 0, 1);
        Check.is("by a session that looked before it began anew", x.unseal(3, 0), 6L);
        TrustModule y = Modules.full();
        y.unseal(2, 0);
        keyFor(y, y.with(0, 0, 0));
        y.extend(0, 0, 1);
        Check.is("by a session that unsealed before", y.unseal(3, 0), 6L);
        TrustModule z = Modules.used();
        z.write(2, 0, 1);
        keyFor(z, z.with(0, 0, 0));
        z.extend(0, 0, 1);
        Check.is("by a session that wrote before", z.unseal(3, 0), 6L);
    }

    private static void lookingIsKept() {
        Check.says("Terms", "if it has looked at PCRS");
        TrustModule x = Modules.full();
        keyFor(x, x.either(0, 1, x.told(4, 0)));
        x.extend(0, 0, 1);
        Check.refused("before either", Check.CHANGED, () -> x.unseal(3, 0));
        TrustModule y = Modules.full();
        keyFor(y, y.with(0, 0, 0));
        y.extend(0, 0, 1);
        Check.refused("before with", Check.CHANGED, () -> y.unseal(3, 0));
        TrustModule z = Modules.full();
        z.extend(0, 0, 1);
        Check.refused("changed", Check.CHANGED, () -> z.unseal(2, 0));
        Check.refused("what is refused does not begin anew", Check.CHANGED, () -> z.unseal(2, 0));
        z.clear();
        z.primary(0, 5);
        z.create(0, 2, 6, 0, Modules.POLICY);
        z.load(0, 2);
        Check.refused("before clear", Check.CHANGED, () -> z.unseal(1, 0));
    }

    private static void begunAnew() {
        Check.says("Promise 11", "SESSION s begins anew");
        for (int s = 0; s < 3; s++) {
            TrustModule x = Modules.full();
            x.session(0);
            for (int i = 0; i < 3; i++) {
                x.pcr(i, 0, 2);
            }
            x.session(s);
            for (int i = 0; i < 3; i++) {
                Check.is("digest " + i + " after " + s, x.told(4, i), i == s ? 0L : Modules.POLICY);
            }
            x.session(s);
            Check.is("again", x.told(4, s), 0L);
        }
    }

    private static TrustModule extendedAll() {
        TrustModule x = Modules.fresh();
        for (int i = 0; i < 8; i++) {
            x.extend(0, i, i + 1);
            x.extend(1, i, i + 21);
        }
        return x;
    }

    private static void pcrDigest() {
        Check.says("Terms", "DIGEST becomes H(H(DIGEST, 11), X), X being 0, to which in order each PCR");
        TrustModule x = extendedAll();
        long[] digests = new long[2];
        for (int mask = 1; mask <= 255; mask++) {
            int bank = mask % 2;
            long all = 0;
            for (int i = 0; i < 8; i++) {
                if ((mask & 1 << i) != 0) {
                    all = Check.h(all, Check.h(0, bank == 0 ? i + 1 : i + 21));
                }
            }
            digests[bank] = Check.h(Check.h(digests[bank], 11), all);
            Check.is("mask " + mask + " of bank " + bank, x.pcr(bank, bank, mask), digests[bank]);
        }
        Check.is("told", x.told(4, 1), digests[1]);
        Check.is("looking extends nothing", x.count(2), 16);
    }

    private static void pcrInOrder() {
        Check.says("Terms", "in order each PCR of a BANK that a mask names is added as H(X, it)");
        TrustModule x = extendedAll();
        long zero = Check.h(0, 1);
        long seven = Check.h(0, 8);
        Check.is("the first alone", x.pcr(0, 0, 1), Check.h(Check.h(0, 11), Check.h(0, zero)));
        x.session(0);
        Check.is("the last alone", x.pcr(0, 0, 128), Check.h(Check.h(0, 11), Check.h(0, seven)));
        x.session(0);
        Check.is("both", x.pcr(0, 0, 129), Check.h(Check.h(0, 11), Check.h(Check.h(0, zero), seven)));
        TrustModule y = Modules.fresh();
        y.extend(1, 0, 1);
        Check.is("a pcr of 0 is added, too", y.pcr(0, 1, 3), Check.h(Check.h(0, 11), Check.h(Check.h(0, zero), 0)));
    }

    private static void eitherDigest() {
        Check.says("Terms", "the DIGEST must be a or b, else FORBIDDEN; it becomes H(12, H(a, b))");
        for (long other : new long[] {0, 5, -1, Long.MIN_VALUE, Long.MAX_VALUE}) {
            for (int s = 0; s < 3; s++) {
                TrustModule x = Modules.fresh();
                Check.is("a", x.either(s, 0, other), Check.h(12, Check.h(0, other)));
                Check.is("told", x.told(4, s), Check.h(12, Check.h(0, other)));
                TrustModule y = Modules.fresh();
                Check.is("b", y.either(s, other, 0), Check.h(12, Check.h(other, 0)));
                TrustModule z = Modules.full();
                Check.is("b of a digest", z.either(0, other, Modules.POLICY),
                        Check.h(12, Check.h(other, Modules.POLICY)));
            }
        }
    }

    private static void withDigest() {
        Check.says("Terms", "DIGEST becomes H(H(DIGEST, 13), NAME)");
        for (int s = 1; s < 3; s++) {
            TrustModule x = Modules.full();
            long first = Check.h(Check.h(0, 13), x.told(2, 1));
            Check.is("a key with a word", x.with(s, 1, 7), first);
            long second = Check.h(Check.h(first, 13), x.told(2, 2));
            Check.is("a key without", x.with(s, 2, -3), second);
            Check.is("told", x.told(4, s), second);
        }
        TrustModule x = Modules.full();
        x.flush(1);
        x.create(0, 2, Long.MIN_VALUE, Integer.MIN_VALUE, Long.MAX_VALUE);
        x.load(0, 2);
        Check.is("a key with the least word", x.with(0, 1, Integer.MIN_VALUE),
                Check.h(Check.h(Modules.POLICY, 13), x.told(2, 1)));
    }

    private static void sessionsAreApart() {
        Check.says("Terms", "SESSIONS 0 .. 2 have a DIGEST");
        for (int s = 0; s < 3; s++) {
            TrustModule x = Modules.fresh();
            x.primary(0, 0);
            long[] answers = {x.pcr(s, 0, 1), x.either(s, x.told(4, s), 0), x.with(s, 0, 0)};
            for (int i = 0; i < 3; i++) {
                Check.is("digest " + i + " after " + s, x.told(4, i), i == s ? answers[2] : 0L);
            }
        }
    }
}

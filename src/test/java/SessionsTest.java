import java.util.function.Supplier;

/** Promises 10 to 14: unseal, session, pcr, either and with. */
public final class SessionsTest {
    private SessionsTest() {
    }

    public static void main(String[] args) {
        unsealed();
        unsealRefused();
        changed();
        lookedAgain();
        lookingIsForgottenAnew();
        eitherKeepsThatItLooked();
        begunAnew();
        pcrDigest();
        pcrRefused();
        eitherDigest();
        eitherRefused();
        withDigest();
        withRefused();
        sessionsAreApart();
        Check.end();
    }

    private static void unsealed() {
        TrustModule x = Modules.full();
        long digest = x.told(4, 0);
        Check.is("secret", x.unseal(2, 0), 43L);
        Check.is("begun anew", x.told(4, 0), 0L);
        Check.refused("once only", Check.FORBIDDEN, () -> x.unseal(2, 0));
        Check.is("the same digest in another session", x.pcr(2, 0, 2), digest);
        Check.is("any session", x.unseal(2, 2), 43L);
    }

    private static void unsealRefused() {
        for (int k : new int[] {-1, 4}) {
            Check.refusedUnchanged("unseal " + k, Modules::full, Check.BAD, x -> x.unseal(k, 0));
        }
        for (int s : new int[] {-1, 3}) {
            Check.refusedUnchanged("unseal by " + s, Modules::full, Check.BAD, x -> x.unseal(2, s));
            Check.refusedUnchanged("bad before missing", Modules::full, Check.BAD, x -> x.unseal(3, s));
        }
        Check.refusedUnchanged("unseal when lost", Modules::lost, Check.LOST, x -> x.unseal(2, 0));
        Check.refusedUnchanged("unseal a free handle", Modules::full, Check.MISSING, x -> x.unseal(3, 0));
        Check.refusedUnchanged("another digest", Modules::full, Check.FORBIDDEN, x -> x.unseal(2, 1));
        Check.refusedUnchanged("no policy, digest 0", Modules::full, Check.FORBIDDEN, x -> x.unseal(0, 1));
        Check.refusedUnchanged("no policy, a digest", Modules::full, Check.FORBIDDEN, x -> x.unseal(1, 0));
    }

    private static void changed() {
        Supplier<TrustModule> make = () -> {
            TrustModule x = Modules.full();
            x.extend(1, 7, 0);
            return x;
        };
        Check.refusedUnchanged("changed", make, Check.CHANGED, x -> x.unseal(2, 0));
        Check.refusedUnchanged("forbidden before changed", make, Check.FORBIDDEN, x -> x.unseal(1, 0));
        Supplier<TrustModule> twice = () -> {
            TrustModule x = Modules.full();
            x.extend(0, 1, 4);
            return x;
        };
        Check.refusedUnchanged("the pcr that was extended before", twice, Check.CHANGED, x -> x.unseal(2, 0));
    }

    private static void lookedAgain() {
        TrustModule x = Modules.fresh();
        x.primary(0, 0);
        long first = x.pcr(0, 0, 1);
        x.extend(1, 0, 1);
        long second = x.pcr(0, 0, 1);
        Check.is("digest of two looks", second, Check.h(Check.h(first, 11), Check.h(0, 0)));
        x.create(0, 0, 5, 0, second);
        x.load(0, 0);
        Check.is("the last look counts", x.unseal(1, 0), 5L);
    }

    private static void lookingIsForgottenAnew() {
        TrustModule x = Modules.full();
        x.extend(0, 0, 1);
        x.session(0);
        x.create(0, 2, 6, 0, x.with(0, 0, 0));
        x.load(0, 2);
        x.extend(0, 0, 1);
        Check.is("by a session that looked before it began anew", x.unseal(3, 0), 6L);
        TrustModule y = Modules.full();
        y.unseal(2, 0);
        y.create(0, 2, 6, 0, y.with(0, 0, 0));
        y.load(0, 2);
        y.extend(0, 0, 1);
        Check.is("by a session that unsealed before", y.unseal(3, 0), 6L);
    }

    private static void eitherKeepsThatItLooked() {
        TrustModule x = Modules.full();
        long digest = x.either(0, 1, x.told(4, 0));
        x.create(0, 2, 8, 0, digest);
        x.load(0, 2);
        x.extend(0, 0, 1);
        Check.refused("looked before either", Check.CHANGED, () -> x.unseal(3, 0));
        TrustModule y = Modules.full();
        y.create(0, 2, 8, 0, y.with(0, 0, 0));
        y.load(0, 2);
        y.extend(0, 0, 1);
        Check.refused("looked before with", Check.CHANGED, () -> y.unseal(3, 0));
    }

    private static void begunAnew() {
        TrustModule x = Modules.full();
        x.with(1, 0, 0);
        long other = x.told(4, 1);
        x.session(0);
        Check.is("digest", x.told(4, 0), 0L);
        Check.is("the others stay", x.told(4, 1), other);
        x.session(2);
        Check.is("a new one", x.told(4, 2), 0L);
        for (int s : new int[] {-1, 3}) {
            Check.refusedUnchanged("session " + s, Modules::full, Check.BAD, y -> y.session(s));
        }
        Check.refusedUnchanged("session when lost", Modules::lost, Check.LOST, y -> y.session(0));
    }

    private static void pcrDigest() {
        TrustModule x = Modules.fresh();
        for (int i = 0; i < 8; i++) {
            x.extend(0, i, i + 1);
            x.extend(1, i, i + 21);
        }
        long digest = 0;
        for (int mask : new int[] {1, 128, 3, 0b10100110, 255}) {
            for (int bank = 0; bank < 2; bank++) {
                long all = 0;
                for (int i = 0; i < 8; i++) {
                    if ((mask & 1 << i) != 0) {
                        all = Check.h(all, x.told(bank, i));
                    }
                }
                digest = Check.h(Check.h(digest, 11), all);
                Check.is("mask " + mask + " of bank " + bank, x.pcr(1, bank, mask), digest);
            }
        }
        Check.is("told", x.told(4, 1), digest);
        Check.is("looking extends nothing", x.count(2), 16);
    }

    private static void pcrRefused() {
        for (int s : new int[] {-1, 3}) {
            Check.refusedUnchanged("pcr of session " + s, Modules::full, Check.BAD, x -> x.pcr(s, 0, 1));
        }
        for (int bank : new int[] {-1, 2}) {
            Check.refusedUnchanged("pcr of bank " + bank, Modules::full, Check.BAD, x -> x.pcr(0, bank, 1));
        }
        for (int mask : new int[] {Integer.MIN_VALUE, -1, 0, 256, Integer.MAX_VALUE}) {
            Check.refusedUnchanged("mask " + mask, Modules::full, Check.BAD, x -> x.pcr(0, 0, mask));
        }
        Check.refusedUnchanged("pcr when lost", Modules::lost, Check.LOST, x -> x.pcr(0, 0, 1));
    }

    private static void eitherDigest() {
        TrustModule x = Modules.fresh();
        Check.is("the first", x.either(0, 0, 5), Check.h(12, Check.h(0, 5)));
        Check.is("told", x.told(4, 0), Check.h(12, Check.h(0, 5)));
        Check.is("the second", x.either(1, 5, 0), Check.h(12, Check.h(5, 0)));
        Check.is("both", x.either(2, 0, 0), Check.h(12, Check.h(0, 0)));
    }

    private static void eitherRefused() {
        for (int s : new int[] {-1, 3}) {
            Check.refusedUnchanged("either of session " + s, Modules::full, Check.BAD, x -> x.either(s, 0, 0));
        }
        Check.refusedUnchanged("either when lost", Modules::lost, Check.LOST, x -> x.either(1, 0, 0));
        Check.refusedUnchanged("lost before forbidden", Modules::lost, Check.LOST, x -> x.either(1, 1, 2));
        Check.refusedUnchanged("neither", Modules::full, Check.FORBIDDEN, x -> x.either(0, 0, 1));
    }

    private static void withDigest() {
        TrustModule x = Modules.full();
        long first = Check.h(Check.h(0, 13), x.told(2, 1));
        Check.is("a key with a word", x.with(1, 1, 7), first);
        long second = Check.h(Check.h(first, 13), x.told(2, 2));
        Check.is("a key without", x.with(1, 2, -3), second);
        Check.is("told", x.told(4, 1), second);
        x.create(0, 2, 10, 0, second);
        x.load(0, 2);
        x.extend(0, 0, 0);
        Check.is("one who never looked", x.unseal(3, 1), 10L);
    }

    private static void withRefused() {
        for (int s : new int[] {-1, 3}) {
            Check.refusedUnchanged("with of session " + s, Modules::full, Check.BAD, x -> x.with(s, 0, 0));
            Check.refusedUnchanged("bad before a wrong guess", Modules::full, Check.BAD, x -> x.with(s, 1, 8));
        }
        for (int k : new int[] {-1, 4}) {
            Check.refusedUnchanged("with handle " + k, Modules::full, Check.BAD, x -> x.with(0, k, 0));
        }
        Check.refusedUnchanged("with when lost", Modules::lost, Check.LOST, x -> x.with(0, 0, 0));
        Check.refusedUnchanged("with a free handle", Modules::full, Check.MISSING, x -> x.with(0, 3, 0));
        Check.refusedUnchanged("missing before locked", Modules::locked, Check.MISSING, x -> x.with(0, 3, 0));
    }

    private static void sessionsAreApart() {
        TrustModule x = Modules.fresh();
        x.primary(0, 0);
        x.pcr(0, 0, 1);
        x.with(1, 0, 0);
        Check.is("session 2", x.told(4, 2), 0L);
        Check.is("session 0", x.told(4, 0), Check.h(Check.h(0, 11), Check.h(0, 0)));
        Check.is("session 1", x.told(4, 1), Check.h(Check.h(0, 13), x.told(2, 0)));
    }
}

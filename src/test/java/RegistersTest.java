/** Promise 3: extend. */
public final class RegistersTest {
    private RegistersTest() {
    }

    public static void main(String[] args) {
        extending();
        eachIsItsOwn();
        pcrCount();
        Check.end();
    }

    private static void extending() {
        Check.says("Terms", "EXTENDING one by v: it becomes H(it, v)");
        TrustModule x = Modules.fresh();
        Check.is("H(0, 5), as in the shared runs", x.extend(0, 0, 5), -3776634046485161226L);
        long pcr = 0;
        for (long v : new long[] {-4, 0, Long.MIN_VALUE, Long.MAX_VALUE, -1}) {
            pcr = Check.h(pcr, v);
            Check.is("answer", x.extend(1, 7, v), pcr);
            Check.is("told", x.told(1, 7), pcr);
        }
    }

    private static void eachIsItsOwn() {
        Check.says("Terms", "BANKS 0 and 1 have PCRS 0 .. 7");
        for (int bank = 0; bank < 2; bank++) {
            for (int i = 0; i < 8; i++) {
                TrustModule x = Modules.fresh();
                x.extend(bank, i, 6);
                for (int told = 0; told < 16; told++) {
                    Check.is("after " + bank + " " + i + ", pcr " + told, x.told(told / 8, told % 8),
                            told == bank * 8 + i ? Check.h(0, 6) : 0L);
                }
            }
        }
    }

    private static void pcrCount() {
        Check.says("Terms", "The PCR COUNT is how many were EXTENDED since power came");
        TrustModule x = Modules.fresh();
        Check.is("none", x.count(2), 0);
        for (int i = 1; i <= 16; i++) {
            x.extend(i % 2, i % 8, 1);
            Check.is("count", x.count(2), i);
        }
        x.extend(0, 0, 0);
        x.extend(0, 0, 0);
        Check.is("the same pcr each time, by 0 too", x.count(2), 18);
        Check.refused("out of range", Check.BAD, () -> x.extend(0, 8, 1));
        Check.is("what is refused is not counted", x.count(2), 18);
        x.power(-1);
        Check.is("since power came", x.count(2), 0);
        x.extend(0, 0, 0);
        Check.is("one", x.count(2), 1);
    }
}

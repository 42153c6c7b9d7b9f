/** Promise 3: extend. */
public final class RegistersTest {
    private RegistersTest() {
    }

    public static void main(String[] args) {
        extending();
        banksAndPcrsAreApart();
        wrongNumbers();
        Check.refusedUnchanged("extend when lost", Modules::lost, Check.LOST, x -> x.extend(0, 0, 1));
        Check.end();
    }

    private static void extending() {
        TrustModule x = Modules.fresh();
        Check.is("H(0, 5), as in the shared runs", x.extend(0, 0, 5), -3776634046485161226L);
        long once = Check.h(0, -4);
        long twice = Check.h(once, Long.MIN_VALUE);
        Check.is("once", x.extend(1, 7, -4), once);
        Check.is("twice", x.extend(1, 7, Long.MIN_VALUE), twice);
        Check.is("told", x.told(1, 7), twice);
        Check.is("the same pcr counts each time", x.count(2), 3);
    }

    private static void banksAndPcrsAreApart() {
        TrustModule x = Modules.fresh();
        for (int i = 0; i < 8; i++) {
            Check.is("bank 0", x.extend(0, i, i + 1), Check.h(0, i + 1));
            Check.is("bank 1", x.extend(1, i, i + 11), Check.h(0, i + 11));
        }
        for (int i = 0; i < 8; i++) {
            Check.is("bank 0 told", x.told(0, i), Check.h(0, i + 1));
            Check.is("bank 1 told", x.told(1, i), Check.h(0, i + 11));
        }
        Check.is("count", x.count(2), 16);
    }

    private static void wrongNumbers() {
        for (int bank : new int[] {-1, 2}) {
            Check.refusedUnchanged("bank " + bank, Modules::full, Check.BAD, x -> x.extend(bank, 0, 1));
        }
        for (int i : new int[] {-1, 8}) {
            Check.refusedUnchanged("pcr " + i, Modules::full, Check.BAD, x -> x.extend(0, i, 1));
        }
    }
}

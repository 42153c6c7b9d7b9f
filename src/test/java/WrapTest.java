import java.math.BigInteger;

/** H at its edges, and the ints that go into it as longs; due answers come from whole numbers without a bound. */
public final class WrapTest {
    private static final long[] EDGES = {0, 1, -1, 2, 1000003, Integer.MIN_VALUE, Integer.MAX_VALUE, 1L << 32,
        Long.MIN_VALUE, Long.MIN_VALUE + 1, Long.MAX_VALUE};
    private static final BigInteger ROUND = BigInteger.ONE.shiftLeft(64);

    private WrapTest() {
    }

    public static void main(String[] args) {
        theTestsOwnH();
        extendWraps();
        eitherWraps();
        templateWraps();
        seedsOfInts();
        wordsBelowZero();
        theFactors();
        Check.end();
    }

    private static BigInteger unsigned(BigInteger number) {
        return number.mod(ROUND);
    }

    /** H without Java's long arithmetic. */
    private static long wholeH(long a, long b) {
        BigInteger sum = BigInteger.valueOf(a).multiply(BigInteger.valueOf(1000003)).add(BigInteger.valueOf(b));
        BigInteger h = unsigned(sum.multiply(new BigInteger("-7046029254386353131")));
        h = h.xor(h.shiftRight(29));
        h = unsigned(h.multiply(BigInteger.valueOf(31)));
        return h.xor(h.shiftRight(32)).longValue();
    }

    private static void theTestsOwnH() {
        Check.says("Terms", "H(a, b), of longs (wrapping)");
        for (long a : EDGES) {
            for (long b : EDGES) {
                Check.is("H(" + a + ", " + b + ") of the tests", Check.h(a, b), wholeH(a, b));
            }
        }
    }

    private static void extendWraps() {
        Check.says("Terms", "H(a, b), of longs (wrapping) ... zeros coming in");
        for (long first : EDGES) {
            for (long second : EDGES) {
                TrustModule x = Modules.fresh();
                long once = wholeH(0, first);
                Check.is("extend by " + first, x.extend(0, 0, first), once);
                Check.is("and by " + second, x.extend(0, 0, second), wholeH(once, second));
            }
        }
    }

    private static void eitherWraps() {
        for (long other : EDGES) {
            Check.is("either 0, " + other, Modules.fresh().either(0, 0, other), wholeH(12, wholeH(0, other)));
            Check.is("either " + other + ", 0", Modules.fresh().either(0, other, 0), wholeH(12, wholeH(other, 0)));
        }
    }

    private static void templateWraps() {
        for (long template : EDGES) {
            TrustModule x = Modules.fresh();
            x.primary(1, template);
            long value = wholeH(wholeH(1, 1), template);
            Check.is("template " + template, x.told(2, 0), wholeH(wholeH(value, 0), wholeH(0, 0)));
        }
    }

    private static void seedsOfInts() {
        Check.says("Promise 1", "The SEEDS are H(s, 0), H(s, 1) and H(s, 2)");
        for (int s : new int[] {0, 1, -1, -2, Integer.MIN_VALUE, Integer.MAX_VALUE}) {
            TrustModule x = new TrustModule(s);
            long[] seeds = {wholeH(s, 0), wholeH(s, 1), wholeH(wholeH(s, 2), 5)};
            for (int hierarchy = 0; hierarchy < 3; hierarchy++) {
                x.primary(hierarchy, 0);
                Check.is("seed " + hierarchy + " of " + s, x.told(2, hierarchy),
                        wholeH(wholeH(wholeH(seeds[hierarchy], 0), 0), wholeH(0, 0)));
            }
        }
    }

    private static void wordsBelowZero() {
        Check.says("Terms", "1 the WORD XOR H(VALUE of the parent, 2)");
        long parent = wholeH(wholeH(1, 0), 5);
        for (int word : new int[] {-1, -2, Integer.MIN_VALUE, Integer.MIN_VALUE + 1, Integer.MAX_VALUE}) {
            TrustModule x = Modules.fresh();
            x.primary(0, 5);
            x.create(0, 0, 4, word, 6);
            Check.is("long 1 of " + word, x.told(3, 1), (long) word ^ wholeH(parent, 2));
            x.load(0, 0);
            Check.is("name of " + word, x.told(2, 1),
                    wholeH(wholeH(wholeH(parent, x.told(3, 3)), word), wholeH(6, 4)));
            Check.is("opened by " + word, x.open(1, word), 4L);
            Check.refused("not by its other sign", Check.WRONG_GUESS, () -> x.open(1, word ^ Integer.MIN_VALUE));
        }
    }

    private static void theFactors() {
        Check.says("Terms", "h is (a * 1000003 + b) * -7046029254386353131; ... then 31 times that");
        TrustModule x = Modules.fresh();
        long h = -7046029254386353131L;
        h = (h ^ h >>> 29) * 31;
        Check.is("H(0, 1)", x.extend(0, 0, 1), h ^ h >>> 32);
    }
}

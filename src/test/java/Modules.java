/** Objects in the states that many tests begin with. */
final class Modules {
    private static final int UNITS_TO_FILL = 10;

    private Modules() {
    }

    static TrustModule fresh() {
        return new TrustModule(1);
    }

    /** As full, but power was lost since. */
    static TrustModule lost() {
        TrustModule x = new TrustModule(1);
        x.power(UNITS_TO_FILL);
        fill(x);
        Check.refused("define without power", Check.LOST, () -> x.define(2, false, 0));
        return x;
    }

    /**
     * HANDLE 0 a primary key, 1 a parent with the secret 42 and word 7, 2 no parent, with the secret 43, no word and a
     * policy that SESSION 0 meets, 3 free; BLOBS 0 and 1 are those of 1 and 2; INDEX 0 a written cell, 1 a counter that
     * has counted, 2 and 3 not defined.
     */
    static TrustModule full() {
        TrustModule x = new TrustModule(1);
        fill(x);
        return x;
    }

    private static void fill(TrustModule x) {
        x.extend(0, 1, 9);
        long policy = x.pcr(0, 0, 2);
        x.primary(0, 5);
        x.create(0, 0, 42, 7, 0);
        x.load(0, 0);
        x.create(0, 1, 43, 0, policy);
        x.load(0, 1);
        x.define(0, false, 0);
        x.write(0, 0, 77);
        x.define(1, true, 0);
        x.write(1, 0, 0);
    }

    /** As full, but three wrong guesses lock the words. */
    static TrustModule locked() {
        TrustModule x = full();
        for (int i = 0; i < 3; i++) {
            Check.refused("a wrong guess", Check.WRONG_GUESS, () -> x.open(1, 8));
        }
        return x;
    }

    /** As full, but there is no free HANDLE. */
    static TrustModule crowded() {
        TrustModule x = full();
        x.primary(1, 1);
        return x;
    }

    /** As full, but INDEX 2 is a cell with the policy that SESSION 0 meets. */
    static TrustModule guarded() {
        TrustModule x = full();
        x.define(2, false, x.told(4, 0));
        return x;
    }
}

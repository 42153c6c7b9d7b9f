import java.util.function.Consumer;
import java.util.function.Supplier;

/** Objects in the states that many tests begin with. */
final class Modules {
    /** What a new SESSION meets after extend(0, 1, 9) and pcr(s, 0, 2). */
    static final long POLICY = Check.h(Check.h(0, 11), Check.h(0, Check.h(0, 9)));

    private static final int UNITS_TO_FILL = 10;
    private static final int UNITS_TO_USE = UNITS_TO_FILL + 2;

    private Modules() {
    }

    static TrustModule fresh() {
        return new TrustModule(1);
    }

    /**
     * HANDLE 0 a primary key, 1 a parent with the secret 42 and word 7, 2 no parent, with the secret 43, no word and a
     * policy that SESSION 0 meets, 3 free; BLOBS 0 and 1 are those of 1 and 2; INDEX 0 a written cell, 1 a counter that
     * has counted, 2 and 3 not defined.
     */
    static TrustModule full() {
        TrustModule x = new TrustModule(1);
        fill(x);
        return x;
    }

    private static void fill(TrustModule x) {
        x.extend(0, 1, 9);
        long policy = x.pcr(0, 0, 2);
        x.primary(0, 5);
        x.create(0, 0, 42, 7, 0);
        x.load(0, 0);
        x.create(0, 1, 43, 0, policy);
        x.load(0, 1);
        x.define(0, false, 0);
        x.write(0, 0, 77);
        x.define(1, true, 0);
        x.write(1, 0, 0);
    }

    /**
     * As full, with so many units of power left, INDEX 2 a cell with the policy that SESSION 0 meets, not written,
     * SESSION 1 with a digest but without a look at PCRS, one wrong guess at 3.0, the clock at 5.5 and the rate 1.25: a
     * refused call finds nothing here that it could reset without being seen.
     */
    static TrustModule used(int unitsLeft) {
        TrustModule x = new TrustModule(1);
        x.power(UNITS_TO_USE + unitsLeft);
        fill(x);
        x.define(2, false, POLICY);
        x.with(1, 0, 0);
        x.clock(3, 1);
        guess(x);
        x.clock(2, 0);
        return x;
    }

    /** Used, with some power left. */
    static TrustModule used() {
        return used(50);
    }

    /** As used, but there is no free HANDLE: 3 is another primary key. */
    static TrustModule crowded() {
        TrustModule x = used();
        x.primary(1, 1);
        return x;
    }

    /** As used, but three wrong guesses lock the words. */
    static TrustModule locked() {
        TrustModule x = used();
        guess(x);
        guess(x);
        return x;
    }

    /** As used, but a PCR was extended since SESSION 0 looked. */
    static TrustModule changed() {
        TrustModule x = used();
        x.extend(1, 7, 0);
        return x;
    }

    /** As used, but power was lost since, with one of two parts done. */
    static TrustModule lost() {
        TrustModule x = used(1);
        Check.refused("define without power", Check.LOST, () -> x.define(3, false, 0));
        return x;
    }

    static void guess(TrustModule x) {
        Check.refused("a wrong guess", Check.WRONG_GUESS, () -> x.open(1, 8));
    }

    /** Objects as made, on which the call was then done. */
    static Supplier<TrustModule> then(Supplier<TrustModule> make, Consumer<TrustModule> call) {
        return () -> {
            TrustModule x = make.get();
            call.accept(x);
            return x;
        };
    }

    /** Objects as made, on which the call was then tried, whatever it threw. */
    static Supplier<TrustModule> tried(Supplier<TrustModule> make, Consumer<TrustModule> call) {
        return then(make, x -> Check.outcome(() -> {
            call.accept(x);
            return "done";
        }));
    }

    /** Objects as made, that lost power since by writing what stood in the cell already. */
    static Supplier<TrustModule> lost(Supplier<TrustModule> make) {
        return then(make, x -> {
            for (int i = 0; i < 40 && x.count(4) == 0; i++) {
                Check.outcome(() -> x.write(0, 0, 77));
            }
            Check.is("lost", x.count(4), 1);
        });
    }
}

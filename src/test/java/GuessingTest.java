/** Promises 9, and 14 as to words: open, wrong guesses, locking and its end. */
public final class GuessingTest {
    private GuessingTest() {
    }

    public static void main(String[] args) {
        opened();
        openRefused();
        wordZeroTakesAll();
        wrongGuessIsCounted();
        wrongGuessChangesNothingElse();
        lockedBeforeTheWordIsLookedAt();
        lockedForWith();
        markIsTheLatestGuess();
        markIsWhenPowerCame();
        oneLessForEachTen();
        guessesAreForgivenOnlyAtTen();
        lockEndsWithTwo();
        Check.end();
    }

    private static TrustModule guessed(int times) {
        TrustModule x = Modules.full();
        for (int i = 0; i < times; i++) {
            guess(x);
        }
        return x;
    }

    private static void guess(TrustModule x) {
        Check.refused("a wrong guess", Check.WRONG_GUESS, () -> x.open(1, 8));
    }

    private static void opened() {
        TrustModule x = Modules.full();
        Check.is("secret", x.open(1, 7), 42L);
        Check.is("again", x.open(1, 7), 42L);
        Check.is("guesses", x.count(1), 0);
    }

    private static void openRefused() {
        for (int k : new int[] {-1, 4}) {
            Check.refusedUnchanged("open " + k, Modules::full, Check.BAD, x -> x.open(k, 7));
        }
        Check.refusedUnchanged("open when lost", Modules::lost, Check.LOST, x -> x.open(1, 7));
        Check.refusedUnchanged("open a free handle", Modules::full, Check.MISSING, x -> x.open(3, 7));
        Check.refusedUnchanged("missing before locked", Modules::locked, Check.MISSING, x -> x.open(3, 7));
        Check.refusedUnchanged("locked, the right word", Modules::locked, Check.LOCKED, x -> x.open(1, 7));
        Check.refusedUnchanged("locked, a wrong word", Modules::locked, Check.LOCKED, x -> x.open(1, 8));
    }

    private static void wordZeroTakesAll() {
        TrustModule x = Modules.locked();
        for (int word : new int[] {0, 1, -1, Integer.MAX_VALUE}) {
            Check.is("primary", x.open(0, word), 0L);
            Check.is("no word, though it has a policy", x.open(2, word), 43L);
        }
        Check.is("guesses", x.count(1), 3);
        Check.refused("0 is no word for a key with one", Check.WRONG_GUESS, () -> Modules.full().open(1, 0));
    }

    private static void wrongGuessIsCounted() {
        TrustModule x = Modules.full();
        for (int i = 1; i <= 3; i++) {
            guess(x);
            Check.is("counted", x.count(1), i);
            if (i < 3) {
                Check.is("not yet locked", x.open(1, 7), 42L);
                Check.is("the right word takes none away", x.count(1), i);
            }
        }
    }

    private static void wrongGuessChangesNothingElse() {
        TrustModule x = guessed(1);
        Check.is("forgiven", x.clock(10, 0), 10.0);
        TrustModule y = Modules.full();
        y.clock(10, 0);
        Check.is("all that can be seen", State.of(x), State.of(y));
        TrustModule z = Modules.full();
        long digest = z.told(4, 0);
        Check.refused("with a wrong word", Check.WRONG_GUESS, () -> z.with(0, 1, 8));
        Check.is("the digest", z.told(4, 0), digest);
        Check.is("counted", z.count(1), 1);
    }

    private static void lockedBeforeTheWordIsLookedAt() {
        TrustModule x = Modules.locked();
        Check.refused("wrong", Check.LOCKED, () -> x.open(1, 8));
        Check.is("not counted", x.count(1), 3);
        x.clock(9, 0);
        Check.refused("still locked", Check.LOCKED, () -> x.open(1, 8));
        x.clock(1, 0);
        Check.is("a locked guess leaves the mark", x.count(1), 2);
    }

    private static void lockedForWith() {
        Check.refusedUnchanged("with, the right word", Modules::locked, Check.LOCKED, x -> x.with(1, 1, 7));
        Check.refusedUnchanged("with, a wrong word", Modules::locked, Check.LOCKED, x -> x.with(1, 1, 8));
        TrustModule x = Modules.locked();
        Check.is("with a key without a word", x.with(1, 0, 9), Check.h(Check.h(0, 13), x.told(2, 0)));
        TrustModule y = Modules.full();
        for (int i = 0; i < 3; i++) {
            Check.refused("a wrong guess by with", Check.WRONG_GUESS, () -> y.with(1, 1, 8));
        }
        Check.refused("locked by with", Check.LOCKED, () -> y.open(1, 7));
        Check.is("sessions are not locked", y.unseal(2, 0), 43L);
    }

    private static void markIsTheLatestGuess() {
        TrustModule x = guessed(1);
        x.clock(6, 0);
        guess(x);
        x.clock(6, 0);
        Check.is("twelve after the first, six after the latest", x.count(1), 2);
        x.clock(4, 0);
        Check.is("ten after the latest", x.count(1), 1);
        x.clock(10, 0);
        Check.is("ten more", x.count(1), 0);
    }

    private static void markIsWhenPowerCame() {
        TrustModule x = guessed(2);
        x.clock(9, 0);
        x.power(-1);
        x.clock(9, 0);
        Check.is("nine after power came", x.count(1), 2);
        x.clock(1, 0);
        Check.is("ten after power came", x.count(1), 1);
    }

    private static void oneLessForEachTen() {
        TrustModule x = guessed(3);
        x.clock(25, 0);
        Check.is("twenty-five", x.count(1), 1);
        x.clock(4, 0);
        Check.is("twenty-nine", x.count(1), 1);
        x.clock(1, 0);
        Check.is("thirty", x.count(1), 0);
        x.clock(100, 0);
        Check.is("never below none", x.count(1), 0);
        guess(x);
        Check.is("a guess long after", x.count(1), 1);
        x.clock(9, 0);
        Check.is("its own mark", x.count(1), 1);
    }

    private static void guessesAreForgivenOnlyAtTen() {
        TrustModule x = Modules.full();
        x.clock(0, 2);
        guess(x);
        x.clock(13, 0);
        Check.is("9.75", x.count(1), 1);
        x.clock(1, 0);
        Check.is("10.5", x.count(1), 0);
        markGoesOnByTen();
        TrustModule y = guessed(3);
        y.clock(100, 0);
        Check.is("all at once", y.count(1), 0);
    }

    private static void markGoesOnByTen() {
        TrustModule x = guessed(2);
        x.clock(19, 2);
        Check.is("19.0", x.count(1), 1);
        x.clock(1, 0);
        Check.is("19.75", x.count(1), 1);
        x.clock(1, 0);
        Check.is("20.5", x.count(1), 0);
    }

    private static void lockEndsWithTwo() {
        TrustModule x = Modules.locked();
        x.clock(10, 0);
        Check.is("two", x.count(1), 2);
        Check.is("open again", x.open(1, 7), 42L);
        guess(x);
        Check.refused("locked again", Check.LOCKED, () -> x.open(1, 7));
    }
}

/** Promises 9, and 14 as to words: open, wrong guesses, locking and its end. */
public final class GuessingTest {
    private GuessingTest() {
    }

    public static void main(String[] args) {
        opened();
        wordZeroTakesAll();
        lockedWithThree();
        lockedIsAllUseOfWords();
        lockedForEveryKeyWithAWord();
        lockedGuessIsNoGuess();
        lockEndsWithTwo();
        notBelowTen();
        notBelowTenAtOtherRates();
        markIsTheLatestGuess();
        markIsWhenPowerCame();
        markGoesOnByTen();
        asLongAsThereAreGuesses();
        Check.end();
    }

    private static TrustModule guessed(int times) {
        TrustModule x = Modules.full();
        for (int i = 0; i < times; i++) {
            Modules.guess(x);
        }
        return x;
    }

    private static void opened() {
        Check.says("Promise 9", "The SECRET of HANDLE k ... for a WORD");
        TrustModule x = Modules.full();
        Check.is("secret", x.open(1, 7), 42L);
        Check.is("again", x.open(1, 7), 42L);
        Check.is("guesses", x.count(1), 0);
        Check.says("Terms", "it must be the KEY's, else it's a WRONG GUESS");
        for (int word : new int[] {0, 6, 8, -7, 7 + 256, 7 | 1 << 31, Integer.MIN_VALUE, Integer.MAX_VALUE}) {
            TrustModule y = Modules.full();
            Check.refused("by " + word, Check.WRONG_GUESS, () -> y.open(1, word));
            Check.is("counted", y.count(1), 1);
            Check.refused("with " + word, Check.WRONG_GUESS, () -> y.with(0, 1, word));
            Check.is("counted with", y.count(1), 2);
        }
    }

    private static void wordZeroTakesAll() {
        Check.says("Terms", "a KEY with WORD 0 takes every WORD");
        for (TrustModule x : new TrustModule[] {Modules.full(), Modules.locked()}) {
            int guesses = x.count(1);
            for (int word : new int[] {0, 1, -1, Integer.MIN_VALUE, Integer.MAX_VALUE}) {
                Check.is("primary", x.open(0, word), 0L);
                Check.is("one with a policy", x.open(2, word), 43L);
                x.session(2);
                Check.is("with", x.with(2, 0, word), Check.h(Check.h(0, 13), x.told(2, 0)));
            }
            Check.is("guesses", x.count(1), guesses);
        }
    }

    private static void lockedWithThree() {
        Check.says("Terms", "With 3 WRONG GUESSES all use of WORDS for KEYS with a WORD other than 0 is LOCKED");
        TrustModule x = Modules.full();
        for (int i = 1; i <= 3; i++) {
            Check.is("not LOCKED with " + (i - 1), x.open(1, 7), 42L);
            Check.is("nor is with", x.with(1, 1, 7), x.told(4, 1));
            Check.is("the right word takes none away", x.count(1), i - 1);
            if (i == 2) {
                Check.refused("a wrong guess by with", Check.WRONG_GUESS, () -> x.with(2, 1, 8));
            } else {
                Modules.guess(x);
            }
            Check.is("counted", x.count(1), i);
        }
        Check.refused("open", Check.LOCKED, () -> x.open(1, 7));
        Check.refused("with", Check.LOCKED, () -> x.with(1, 1, 7));
        Check.is("never more than 3", x.count(1), 3);
    }

    private static void lockedIsAllUseOfWords() {
        TrustModule x = Modules.locked();
        Check.is("sessions are no words", x.unseal(2, 0), 43L);
        x.flush(2);
        x.create(0, 2, 3, 9, x.pcr(0, 0, 1));
        x.load(0, 2);
        Check.is("nor for a key that has both", x.unseal(2, 0), 3L);
        x.create(1, 2, 4, 9, 0);
        Check.is("neither is loading", x.load(1, 2), 3);
        Check.refused("which leaves it locked", Check.LOCKED, () -> x.open(3, 9));
    }

    private static void lockedForEveryKeyWithAWord() {
        for (int word : new int[] {1, -1, Integer.MIN_VALUE, Integer.MAX_VALUE}) {
            TrustModule x = Modules.locked();
            x.create(0, 2, 5, word, 0);
            x.load(0, 2);
            Check.refused("word " + word, Check.LOCKED, () -> x.open(3, word));
        }
    }

    private static void lockedGuessIsNoGuess() {
        Check.says("Terms", "is LOCKED (before the WORD is looked at)");
        TrustModule x = guessed(3);
        x.clock(9, 0);
        Check.refused("open", Check.LOCKED, () -> x.open(1, 8));
        Check.refused("with", Check.LOCKED, () -> x.with(0, 1, 8));
        Check.is("not counted", x.count(1), 3);
        x.clock(1, 0);
        Check.is("and the mark is as it was", x.count(1), 2);
    }

    private static void lockEndsWithTwo() {
        Check.says("Terms", "there is one less");
        TrustModule x = guessed(3);
        x.clock(9, 0);
        Check.refused("locked just before", Check.LOCKED, () -> x.open(1, 7));
        x.clock(1, 0);
        Check.is("two", x.count(1), 2);
        Check.is("open again", x.open(1, 7), 42L);
        Modules.guess(x);
        Check.refused("locked again", Check.LOCKED, () -> x.open(1, 7));
    }

    private static void notBelowTen() {
        Check.says("Terms", "the CLOCK isn't below MARK + 10.0, there is one less");
        TrustModule x = guessed(1);
        x.clock(9, 0);
        Check.is("9.0", x.count(1), 1);
        x.clock(0, 0);
        Check.is("9.0 still", x.count(1), 1);
        x.clock(1, 0);
        Check.is("10.0", x.count(1), 0);
        TrustModule y = guessed(1);
        y.clock(10, 0);
        Check.is("10.0 at once", y.count(1), 0);
        TrustModule z = guessed(1);
        z.clock(11, 0);
        Check.is("11.0 at once", z.count(1), 0);
    }

    private static void notBelowTenAtOtherRates() {
        TrustModule slow = Modules.full();
        slow.clock(0, 2);
        Modules.guess(slow);
        slow.clock(13, 0);
        Check.is("9.75", slow.count(1), 1);
        slow.clock(1, 0);
        Check.is("10.5", slow.count(1), 0);

        TrustModule fast = Modules.full();
        fast.clock(0, 1);
        Modules.guess(fast);
        fast.clock(7, 0);
        Check.is("8.75", fast.count(1), 1);
        fast.clock(1, 0);
        Check.is("10.0", fast.count(1), 0);

        TrustModule mixed = guessed(1);
        mixed.clock(9, 1);
        mixed.clock(0, 2);
        mixed.clock(1, 0);
        Check.is("9.9375", mixed.count(1), 1);
        mixed.clock(1, 0);
        Check.is("10.875", mixed.count(1), 0);
    }

    private static void markIsTheLatestGuess() {
        Check.says("Terms", "MARK is the CLOCK when power came or at the latest WRONG GUESS");
        TrustModule x = guessed(1);
        x.clock(6, 0);
        Check.refused("a wrong guess by with", Check.WRONG_GUESS, () -> x.with(0, 1, 8));
        x.clock(9, 0);
        Check.is("fifteen after the first, nine after the latest", x.count(1), 2);
        x.clock(1, 0);
        Check.is("ten after the latest", x.count(1), 1);
        x.clock(9, 0);
        Check.is("nineteen", x.count(1), 1);
        x.clock(1, 0);
        Check.is("twenty", x.count(1), 0);
        Modules.guess(x);
        x.clock(4, 0);
        x.open(1, 7);
        x.clock(6, 0);
        Check.is("the right word is no guess", x.count(1), 0);
    }

    private static void markIsWhenPowerCame() {
        TrustModule x = guessed(2);
        x.clock(9, 0);
        x.power(-1);
        x.clock(9, 0);
        Check.is("nine after power came", x.count(1), 2);
        x.clock(1, 0);
        Check.is("ten after power came", x.count(1), 1);

        TrustModule y = guessed(3);
        y.clock(25, 0);
        Check.is("one, the mark at 20.0", y.count(1), 1);
        y.power(0);
        y.clock(9, 0);
        Check.is("34.0, power came at 25.0", y.count(1), 1);
        Check.refused("lost", Check.LOST, () -> y.remove(0));
        y.power(-1);
        y.clock(9, 0);
        Check.is("43.0, power came at 34.0 after a loss", y.count(1), 1);
        y.clock(1, 0);
        Check.is("44.0", y.count(1), 0);
    }

    private static void markGoesOnByTen() {
        Check.says("Terms", "and MARK is 10.0 more");
        TrustModule x = guessed(2);
        x.clock(19, 2);
        Check.is("19.0", x.count(1), 1);
        x.clock(1, 0);
        Check.is("19.75", x.count(1), 1);
        x.clock(1, 0);
        Check.is("20.5", x.count(1), 0);

        TrustModule y = guessed(2);
        y.clock(10, 0);
        Check.is("10.0", y.count(1), 1);
        y.clock(9, 1);
        y.clock(0, 2);
        y.clock(1, 0);
        Check.is("19.9375", y.count(1), 1);
        y.clock(1, 0);
        Check.is("20.875", y.count(1), 0);
    }

    private static void asLongAsThereAreGuesses() {
        Check.says("Terms", "whenever the CLOCK goes on: as long as there are WRONG GUESSES");
        int[][] afterUnits = {{9, 3}, {10, 2}, {19, 2}, {20, 1}, {29, 1}, {30, 0}, {31, 0}, {100, 0}};
        for (int[] row : afterUnits) {
            TrustModule x = guessed(3);
            x.clock(row[0], 0);
            Check.is("after " + row[0] + " at once", x.count(1), row[1]);
        }
        TrustModule x = guessed(3);
        for (int i = 1; i <= 40; i++) {
            x.clock(1, 0);
            Check.is("after " + i, x.count(1), i < 30 ? 3 - i / 10 : 0);
        }
        Modules.guess(x);
        x.clock(9, 0);
        Check.is("a guess long after has its own mark", x.count(1), 1);
        x.clock(1, 0);
        Check.is("and is forgiven in its turn", x.count(1), 0);
    }
}

import java.util.NoSuchElementException;
import java.util.function.Consumer;
import java.util.function.Supplier;

/** What all tests share: they print every answer that is not due, and end with exit code 1 if there was one. */
final class Check {
    static final Class<? extends RuntimeException> BAD = IllegalArgumentException.class;
    static final Class<? extends RuntimeException> LOST = IllegalStateException.class;
    static final Class<? extends RuntimeException> LOCKED = IllegalStateException.class;
    static final Class<? extends RuntimeException> CHANGED = IllegalStateException.class;
    static final Class<? extends RuntimeException> NO_ROOM = IllegalStateException.class;
    static final Class<? extends RuntimeException> MISSING = NoSuchElementException.class;
    static final Class<? extends RuntimeException> FORBIDDEN = UnsupportedOperationException.class;
    static final Class<? extends RuntimeException> WRONG_GUESS = UnsupportedOperationException.class;
    static final Class<? extends RuntimeException> TAMPERED = ArithmeticException.class;

    private static String sentence = "";
    private static int wrong = 0;

    private Check() {
    }

    /** Where the document says what the checks behind this hold the program to, and its words. */
    static void says(String where, String words) {
        sentence = where + ", \"" + words + "\": ";
    }

    /** H, written after the document's words and not after the program. */
    static long h(long a, long b) {
        long first = (a * 1000003 + b) * -7046029254386353131L;
        long second = first ^ (first >>> 29);
        long third = 31 * second;
        return third ^ (third >>> 32);
    }

    static long nameOf(long value, int word, long policy, long secret) {
        return h(h(value, word), h(policy, secret));
    }

    static void is(String what, Object got, Object due) {
        if (!due.equals(got)) {
            wrong++;
            System.out.println(sentence + what + ": answered " + got + ", due is " + due);
        }
    }

    static void refused(String what, Class<? extends RuntimeException> due, Runnable call) {
        is(what, outcome(() -> {
            call.run();
            return "no exception";
        }), due.getSimpleName());
    }

    /** The call is refused, and the object is then as one that it was never called on. */
    static void refusedUnchanged(String what, Supplier<TrustModule> make, Class<? extends RuntimeException> due,
            Consumer<TrustModule> call) {
        refused(what, due, () -> call.accept(make.get()));
        same(what, Modules.tried(make, call), make);
    }

    /** The call loses power, and all else is as if it hadn't begun, both before power comes and afterwards. */
    static void losesPower(String what, Supplier<TrustModule> make, Consumer<TrustModule> call) {
        TrustModule before = make.get();
        TrustModule after = make.get();
        refused(what, LOST, () -> call.accept(after));
        is(what + ": power left", after.count(3), 0);
        is(what + ": lost", after.count(4), 1);
        is(what + ": how often lost", after.count(7), before.count(7) + 1);
        is(what + ": differs in all else", State.difference(State.butPower(Modules.tried(make, call)),
                State.butPower(make)), "nothing");
    }

    /** The two kinds of making lead to objects that answer the same. */
    static void same(String what, Supplier<TrustModule> made, Supplier<TrustModule> due) {
        is(what + ": differs afterwards", State.difference(State.of(made), State.of(due)), "nothing");
    }

    static String outcome(Supplier<Object> call) {
        try {
            return String.valueOf(call.get());
        } catch (RuntimeException e) {
            return e.getClass().getSimpleName();
        }
    }

    static void end() {
        if (wrong > 0) {
            System.out.println(wrong + " wrong");
            System.exit(1);
        }
    }
}

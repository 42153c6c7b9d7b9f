import java.util.NoSuchElementException;
import java.util.function.Consumer;
import java.util.function.Supplier;

/** What all tests share: they print every answer that is not due, and end with exit code 1 if there was one. */
final class Check {
    static final Class<? extends RuntimeException> BAD = IllegalArgumentException.class;
    static final Class<? extends RuntimeException> LOST = IllegalStateException.class;
    static final Class<? extends RuntimeException> LOCKED = IllegalStateException.class;
    static final Class<? extends RuntimeException> CHANGED = IllegalStateException.class;
    static final Class<? extends RuntimeException> NO_ROOM = IllegalStateException.class;
    static final Class<? extends RuntimeException> MISSING = NoSuchElementException.class;
    static final Class<? extends RuntimeException> FORBIDDEN = UnsupportedOperationException.class;
    static final Class<? extends RuntimeException> WRONG_GUESS = UnsupportedOperationException.class;
    static final Class<? extends RuntimeException> TAMPERED = ArithmeticException.class;

    private static int wrong = 0;

    private Check() {
    }

    /** H, written after the document's words and not after the program. */
    static long h(long a, long b) {
        long first = (a * 1000003 + b) * -7046029254386353131L;
        long second = first ^ (first >>> 29);
        long third = 31 * second;
        return third ^ (third >>> 32);
    }

    static long nameOf(long value, int word, long policy, long secret) {
        return h(h(value, word), h(policy, secret));
    }

    static void is(String what, Object got, Object due) {
        if (!due.equals(got)) {
            wrong++;
            System.out.println(what + ": answered " + got + ", due is " + due);
        }
    }

    static void refused(String what, Class<? extends RuntimeException> due, Runnable call) {
        is(what, outcome(() -> {
            call.run();
            return "no exception";
        }), due.getSimpleName());
    }

    /** The call is refused, and the object is then as one that it was never called on. */
    static void refusedUnchanged(String what, Supplier<TrustModule> make, Class<? extends RuntimeException> due,
            Consumer<TrustModule> call) {
        TrustModule called = make.get();
        refused(what, due, () -> call.accept(called));
        is(what + ": all that can be seen afterwards", State.of(called), State.of(make.get()));
    }

    static String outcome(Supplier<Object> call) {
        try {
            return String.valueOf(call.get());
        } catch (RuntimeException e) {
            return e.getClass().getSimpleName();
        }
    }

    static void end() {
        if (wrong > 0) {
            System.out.println(wrong + " wrong");
            System.exit(1);
        }
    }
}

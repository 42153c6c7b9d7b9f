import java.util.function.Consumer;
import java.util.function.Supplier;

/** Promises 15 to 18, and 24 as to parts: define, remove, write and read. */
public final class StoreTest {
    private static final int MOST_UNITS = 100;

    private StoreTest() {
    }

    public static void main(String[] args) {
        defined();
        definedAnew();
        removed();
        written();
        counted();
        greatestThatAnyEverHad();
        writtenByPolicy();
        policiesOfAllSizes();
        sessionDoesNotMatter();
        partsUsed();
        allPowerUsed();
        powerLostInTheMidst();
        powerLostByAPolicy();
        lossIsCounted();
        Check.end();
    }

    private static void defined() {
        Check.says("Promise 15", "DEFINES INDEX x ... not WRITTEN, its value 0");
        for (int x = 0; x < 4; x++) {
            for (boolean counter : new boolean[] {false, true}) {
                int index = x;
                TrustModule module = Modules.fresh();
                module.define(x, counter, 0);
                Check.is("one", module.count(5), 1);
                Check.refused("not written", Check.MISSING, () -> module.read(index));
                Check.is("written", module.write(x, 0, 0), counter ? 1L : 0L);
                Check.is("read", module.read(x), counter ? 1L : 0L);
            }
        }
        TrustModule module = Modules.fresh();
        for (int x = 0; x < 4; x++) {
            module.define(x, x % 2 == 0, x);
            Check.is("indices", module.count(5), x + 1);
        }
        for (int x = 0; x < 4; x++) {
            int index = x;
            Check.refused("full", Check.NO_ROOM, () -> module.define(index, false, 0));
        }
    }

    private static void definedAnew() {
        Check.says("Promise 15", "DEFINES INDEX x ... not WRITTEN, its value 0");
        TrustModule x = Modules.full();
        x.remove(0);
        x.define(0, true, 0);
        Check.refused("not written", Check.MISSING, () -> x.read(0));
        Check.is("a counter now", x.write(0, 0, 99), 2L);
        x.remove(0);
        x.define(0, false, 5);
        Check.refused("with a policy now", Check.FORBIDDEN, () -> x.write(0, 0, 1));
        x.remove(0);
        x.define(0, false, 0);
        Check.is("a cell without one now", x.write(0, 0, -1), -1L);
    }

    private static void removed() {
        Check.says("Promise 16", "Removes INDEX x");
        for (int i = 0; i < 4; i++) {
            int index = i;
            TrustModule x = Modules.used();
            x.define(3, true, 9);
            x.remove(i);
            Check.is("three left", x.count(5), 3);
            Check.refused("not to be read", Check.MISSING, () -> x.read(index));
            Check.refused("not to be written", Check.MISSING, () -> x.write(index, 0, 1));
            if (i != 0) {
                Check.is("the cell stays", x.read(0), 77L);
            }
            if (i != 1) {
                Check.is("the counter stays", x.read(1), 1L);
            }
        }
    }

    private static void written() {
        Check.says("Promise 17", "WRITES v into CELL x ... WRITTEN then. Answers the value");
        TrustModule x = Modules.full();
        for (long v : new long[] {0, 1, -1, Long.MAX_VALUE, Long.MIN_VALUE}) {
            Check.is("answer", x.write(0, 2, v), v);
            Check.is("value", x.read(0), v);
        }
        Check.is("the counter stays", x.read(1), 1L);
    }

    private static void counted() {
        Check.says("Promise 17", "or COUNTS (v doesn't matter)");
        long due = 1;
        TrustModule x = Modules.fresh();
        x.define(0, true, 0);
        for (long v : new long[] {0, 100, -100, Long.MIN_VALUE, Long.MAX_VALUE}) {
            Check.is("answer", x.write(0, 0, v), due);
            Check.is("value", x.read(0), due);
            due++;
        }
    }

    private static void greatestThatAnyEverHad() {
        Check.says("Terms", "one more than the greatest value that any COUNTER ever had, 0 at first");
        TrustModule x = Modules.fresh();
        x.define(0, true, 0);
        x.define(1, true, 0);
        x.define(2, false, 0);
        Check.is("first", x.write(0, 0, 0), 1L);
        Check.is("second", x.write(0, 0, 0), 2L);
        Check.is("another", x.write(1, 0, 0), 3L);
        x.write(2, 0, 50);
        Check.is("a cell is no counter", x.write(1, 0, 0), 4L);
        Check.is("the other stays", x.read(0), 2L);
        Check.is("and goes on behind it", x.write(0, 0, 0), 5L);
        x.remove(0);
        Check.is("after the greatest was removed", x.write(1, 0, 0), 6L);
        x.remove(1);
        x.define(1, true, 0);
        Check.is("in one defined anew", x.write(1, 0, 0), 7L);
        x.power(100);
        Check.is("after power came", x.write(1, 0, 0), 8L);
        x.clear();
        x.define(0, true, 0);
        Check.is("after clear", x.write(0, 0, 0), 9L);
        x.power(5);
        x.write(0, 0, 0);
        Check.refused("lost", Check.LOST, () -> x.write(0, 0, 0));
        x.power(-1);
        Check.is("as it was", x.read(0), 10L);
        Check.is("after a loss", x.write(0, 0, 0), 11L);
        Check.refused("refused", Check.MISSING, () -> x.write(1, 0, 0));
        Check.is("after a refusal", x.write(0, 0, 0), 12L);
    }

    private static void writtenByPolicy() {
        Check.says("Promise 17", "With a POLICY other than 0: by SESSION s, as for KEYS");
        TrustModule x = Modules.used();
        Check.is("written", x.write(2, 0, -6), -6L);
        Check.is("the session begins anew", x.told(4, 0), 0L);
        Check.is("read without a policy", x.read(2), -6L);
        Check.refused("once only", Check.FORBIDDEN, () -> x.write(2, 0, 1));
        x.define(3, true, x.pcr(2, 0, 2));
        Check.is("a counter", x.write(3, 2, 0), 2L);
        Check.is("its session begins anew", x.told(4, 2), 0L);
        Check.is("its value", x.read(3), 2L);
        x.remove(2);
        Check.is("removed without a policy", x.count(5), 3);
    }

    private static void policiesOfAllSizes() {
        Check.says("Promise 17", "With a POLICY other than 0");
        for (long policy : new long[] {1, -1, Long.MIN_VALUE, Long.MAX_VALUE, 1L << 32}) {
            TrustModule x = Modules.fresh();
            x.define(0, false, policy);
            Check.refused("the digest 0 for " + policy, Check.FORBIDDEN, () -> x.write(0, 0, 1));
        }
    }

    private static void sessionDoesNotMatter() {
        Check.says("Promise 17", "else s doesn't matter (but is 0 .. 2)");
        for (int s = 0; s < 3; s++) {
            TrustModule x = Modules.changed();
            long digest = x.told(4, s);
            Check.is("a cell", x.write(0, s, 6), 6L);
            Check.is("a counter", x.write(1, s, 6), 2L);
            Check.is("no session begins anew", x.told(4, s), digest);
        }
        Check.refused("but is below 3", Check.BAD, () -> Modules.used().write(0, 3, 6));
        Check.refused("but is not below 0", Check.BAD, () -> Modules.used().write(0, -1, 6));
    }

    private static void partsUsed() {
        Check.says("Terms", "takes three PARTS, and DEFINING and removing two; each PART uses up one unit of POWER");
        for (int units = 2; units <= 5; units++) {
            used("define a cell", units, 2, x -> x.define(3, false, 0));
            used("define a counter", units, 2, x -> x.define(3, true, 7));
            used("remove a cell", units, 2, x -> x.remove(0));
            used("remove a counter", units, 2, x -> x.remove(1));
            used("remove what is not written", units, 2, x -> x.remove(2));
        }
        for (int units = 3; units <= 5; units++) {
            used("write", units, 3, x -> x.write(0, 0, 5));
            used("count", units, 3, x -> x.write(1, 0, 5));
            used("write by a policy", units, 3, x -> x.write(2, 0, 5));
        }
        used("write the same", 3, 3, x -> x.write(0, 0, 77));
    }

    private static void used(String what, int units, int parts, Consumer<TrustModule> call) {
        TrustModule x = Modules.used(units);
        call.accept(x);
        Check.is(what + " with " + units + ": left", x.count(3), units - parts);
        Check.is(what + " with " + units + ": lost", x.count(4), 0);
        Check.is(what + " with " + units + ": how often lost", x.count(7), 0);
    }

    private static void allPowerUsed() {
        Check.says("Promise 24", "POWER left is 0 then");
        TrustModule x = Modules.full();
        x.power(MOST_UNITS);
        for (int i = 1; i <= 33; i++) {
            x.write(0, 0, i);
            Check.is("left", x.count(3), MOST_UNITS - 3 * i);
        }
        Check.refused("one left of three", Check.LOST, () -> x.write(0, 0, 34));
        Check.is("none left", x.count(3), 0);
        x.power(MOST_UNITS);
        Check.is("as it was", x.read(0), 33L);
        for (int i = 1; i <= 25; i++) {
            x.define(3, false, 0);
            x.remove(3);
            Check.is("left", x.count(3), MOST_UNITS - 4 * i);
        }
        Check.is("not lost", x.count(4), 0);
        Check.refused("none left of two", Check.LOST, () -> x.define(3, false, 0));
        Check.is("lost", x.count(4), 1);
        Check.is("how often", x.count(7), 2);
    }

    private static void powerLostInTheMidst() {
        Check.says("Terms", "power is LOST, ... and all else is as if the call hadn't begun");
        for (int units = 0; units < 3; units++) {
            lostWith(units, "write", x -> x.write(0, 0, 5));
            lostWith(units, "count", x -> x.write(1, 0, 5));
            lostWith(units, "write by a policy", x -> x.write(2, 0, 5));
        }
        for (int units = 0; units < 2; units++) {
            lostWith(units, "define a cell", x -> x.define(3, false, 0));
            lostWith(units, "define a counter", x -> x.define(3, true, 9));
            lostWith(units, "remove a cell", x -> x.remove(0));
            lostWith(units, "remove a counter", x -> x.remove(1));
            lostWith(units, "remove what is not written", x -> x.remove(2));
        }
    }

    private static void lostWith(int units, String what, Consumer<TrustModule> call) {
        Check.losesPower(what + " with " + units, () -> Modules.used(units), call);
    }

    private static void powerLostByAPolicy() {
        for (int units = 0; units < 3; units++) {
            TrustModule x = Modules.used(units);
            Check.refused("lost", Check.LOST, () -> x.write(2, 0, 1));
            Check.is("the session is as before", x.told(4, 0), Modules.POLICY);
        }
        Supplier<TrustModule> first = () -> {
            TrustModule x = Modules.fresh();
            x.define(0, true, Check.h(Check.h(0, 13), Check.nameOf(Check.h(Check.h(1, 0), 5), 0, 0, 0)));
            x.power(2);
            x.primary(0, 5);
            x.with(2, 0, 0);
            return x;
        };
        Check.losesPower("the first count, by a policy", first, x -> x.write(0, 2, 0));
    }

    private static void lossIsCounted() {
        Check.says("Promise 22", "how often power was LOST (7)");
        TrustModule x = Modules.full();
        for (int i = 1; i <= 20; i++) {
            x.power(i % 2);
            Check.is("power that comes is no loss", x.count(7), i - 1);
            Check.refused("lost", Check.LOST, () -> x.remove(0));
            Check.is("times", x.count(7), i);
            Check.refused("while lost", Check.LOST, () -> x.remove(0));
            Check.is("times, while lost", x.count(7), i);
        }
    }
}

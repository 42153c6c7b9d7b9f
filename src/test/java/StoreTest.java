import java.util.function.Consumer;
import java.util.function.Supplier;

/** Promises 15 to 18, and 24 as to parts: define, remove, write and read. */
public final class StoreTest {
    private StoreTest() {
    }

    public static void main(String[] args) {
        defined();
        definedAnew();
        defineRefused();
        removed();
        removeRefused();
        written();
        counted();
        countingGoesOn();
        writeRefused();
        writtenByPolicy();
        policyComesBeforeParts();
        readRefused();
        partsUsed();
        powerLostInTheMidst();
        lossLeavesTheSession();
        Check.end();
    }

    private static void defined() {
        TrustModule x = Modules.fresh();
        x.define(3, false, 0);
        x.define(0, true, 0);
        Check.is("two", x.count(5), 2);
        Check.refused("a cell is not written", Check.MISSING, () -> x.read(3));
        Check.refused("a counter is not written", Check.MISSING, () -> x.read(0));
        Check.is("written", x.write(3, 0, 0), 0L);
        Check.is("read", x.read(3), 0L);
    }

    private static void definedAnew() {
        TrustModule x = Modules.full();
        x.remove(0);
        x.define(0, true, 0);
        Check.refused("not written", Check.MISSING, () -> x.read(0));
        Check.is("a counter now", x.write(0, 0, 99), 2L);
        x.remove(0);
        x.define(0, false, 5);
        Check.refused("with a policy now", Check.FORBIDDEN, () -> x.write(0, 0, 1));
        x.remove(0);
        x.define(0, false, 0);
        Check.is("a cell without one now", x.write(0, 0, -1), -1L);
    }

    private static void defineRefused() {
        for (int i : new int[] {-1, 4}) {
            Check.refusedUnchanged("define " + i, Modules::full, Check.BAD, x -> x.define(i, true, 0));
            Check.refusedUnchanged("bad before lost", Modules::lost, Check.BAD, x -> x.define(i, true, 0));
        }
        Check.refusedUnchanged("define when lost", Modules::lost, Check.LOST, x -> x.define(2, true, 0));
        Check.refusedUnchanged("defined already", Modules::full, Check.NO_ROOM, x -> x.define(0, true, 5));
        Check.refusedUnchanged("no room before parts", () -> powered(Modules.full(), 1), Check.NO_ROOM,
                x -> x.define(0, true, 5));
    }

    private static TrustModule powered(TrustModule x, int units) {
        x.power(units);
        return x;
    }

    private static void removed() {
        TrustModule x = Modules.full();
        x.remove(0);
        Check.is("one left", x.count(5), 1);
        Check.refused("gone", Check.MISSING, () -> x.read(0));
        Check.refused("not to be written", Check.MISSING, () -> x.write(0, 0, 1));
        Check.is("the other stays", x.read(1), 1L);
        x.define(2, false, 9);
        x.remove(2);
        Check.is("a policy does not keep it", x.count(5), 1);
    }

    private static void removeRefused() {
        for (int i : new int[] {-1, 4}) {
            Check.refusedUnchanged("remove " + i, Modules::full, Check.BAD, x -> x.remove(i));
        }
        Check.refusedUnchanged("remove when lost", Modules::lost, Check.LOST, x -> x.remove(2));
        Check.refusedUnchanged("not defined", Modules::full, Check.MISSING, x -> x.remove(2));
        Check.refusedUnchanged("missing before parts", () -> powered(Modules.full(), 1), Check.MISSING,
                x -> x.remove(2));
    }

    private static void written() {
        TrustModule x = Modules.full();
        for (long v : new long[] {0, -1, Long.MAX_VALUE, Long.MIN_VALUE}) {
            Check.is("answer", x.write(0, 2, v), v);
            Check.is("value", x.read(0), v);
        }
        Check.is("no session is used", x.told(4, 0), Modules.full().told(4, 0));
        x.write(0, 0, 3);
        Check.is("nor this one", x.told(4, 0), Modules.full().told(4, 0));
    }

    private static void counted() {
        TrustModule x = Modules.fresh();
        x.define(0, true, 0);
        x.define(1, true, 0);
        x.define(2, false, 0);
        Check.is("first", x.write(0, 0, 100), 1L);
        Check.is("second", x.write(0, 1, -100), 2L);
        Check.is("the greatest of any", x.write(1, 2, 0), 3L);
        x.write(2, 0, 50);
        Check.is("cells are no counters", x.write(1, 0, 0), 4L);
        Check.is("the other stays", x.read(0), 2L);
        Check.is("and goes on behind it", x.write(0, 0, 0), 5L);
    }

    private static void countingGoesOn() {
        TrustModule x = Modules.full();
        x.write(1, 0, 0);
        x.remove(1);
        x.define(2, true, 0);
        Check.is("after removing", x.write(2, 0, 0), 3L);
        x.power(100);
        Check.is("after power came", x.write(2, 0, 0), 4L);
        x.clear();
        x.define(0, true, 0);
        Check.is("after clearing", x.write(0, 0, 0), 5L);
        x.power(7);
        x.write(0, 0, 0);
        x.write(0, 0, 0);
        Check.refused("lost", Check.LOST, () -> x.write(0, 0, 0));
        x.power(-1);
        Check.is("as it was", x.read(0), 7L);
        Check.is("after a loss", x.write(0, 0, 0), 8L);
    }

    private static void writeRefused() {
        for (int i : new int[] {-1, 4}) {
            Check.refusedUnchanged("write " + i, Modules::full, Check.BAD, x -> x.write(i, 0, 1));
        }
        for (int s : new int[] {-1, 3}) {
            Check.refusedUnchanged("write by " + s, Modules::full, Check.BAD, x -> x.write(0, s, 1));
            Check.refusedUnchanged("bad before missing", Modules::full, Check.BAD, x -> x.write(2, s, 1));
        }
        Check.refusedUnchanged("write when lost", Modules::lost, Check.LOST, x -> x.write(2, 0, 1));
        Check.refusedUnchanged("not defined", Modules::full, Check.MISSING, x -> x.write(2, 0, 1));
        Check.refusedUnchanged("missing before parts", () -> powered(Modules.full(), 0), Check.MISSING,
                x -> x.write(2, 0, 1));
        Check.refusedUnchanged("another digest", Modules::guarded, Check.FORBIDDEN, x -> x.write(2, 1, 1));
        Check.refusedUnchanged("changed", () -> {
            TrustModule x = Modules.guarded();
            x.extend(0, 0, 0);
            return x;
        }, Check.CHANGED, x -> x.write(2, 0, 1));
    }

    private static void writtenByPolicy() {
        TrustModule x = Modules.guarded();
        Check.is("written", x.write(2, 0, -6), -6L);
        Check.is("the session begins anew", x.told(4, 0), 0L);
        Check.is("read without a policy", x.read(2), -6L);
        Check.refused("once only", Check.FORBIDDEN, () -> x.write(2, 0, 1));
        x.define(3, true, x.pcr(2, 0, 2));
        Check.is("a counter", x.write(3, 2, 0), 2L);
        Check.is("its session begins anew", x.told(4, 2), 0L);
    }

    private static TrustModule guardedWithPower(int units, boolean looksAndExtends) {
        TrustModule x = Modules.fresh();
        x.define(2, false, Check.h(Check.h(0, 11), Check.h(0, 0)));
        x.power(units);
        x.pcr(0, 0, 1);
        if (looksAndExtends) {
            x.extend(1, 1, 1);
        }
        return x;
    }

    private static void policyComesBeforeParts() {
        Check.refusedUnchanged("forbidden before parts", () -> guardedWithPower(1, false), Check.FORBIDDEN,
                x -> x.write(2, 1, 1));
        Check.refusedUnchanged("changed before parts", () -> guardedWithPower(1, true), Check.CHANGED,
                x -> x.write(2, 0, 1));
    }

    private static void readRefused() {
        for (int i : new int[] {-1, 4}) {
            Check.refusedUnchanged("read " + i, Modules::full, Check.BAD, x -> x.read(i));
        }
        Check.refusedUnchanged("read when lost", Modules::lost, Check.LOST, x -> x.read(0));
        Check.refusedUnchanged("not defined", Modules::full, Check.MISSING, x -> x.read(2));
        Check.refusedUnchanged("not written", Modules::guarded, Check.MISSING, x -> x.read(2));
    }

    private static void partsUsed() {
        TrustModule x = Modules.fresh();
        x.power(13);
        x.define(0, false, 0);
        Check.is("defining takes two", x.count(3), 11);
        x.write(0, 0, 1);
        Check.is("writing takes three", x.count(3), 8);
        x.define(1, true, 0);
        x.write(1, 0, 0);
        Check.is("counting takes three", x.count(3), 3);
        x.remove(1);
        Check.is("removing takes two", x.count(3), 1);
        Check.is("not lost", x.count(4), 0);
    }

    private static void powerLostInTheMidst() {
        for (int units = 0; units < 3; units++) {
            lostBy("write with " + units, units, x -> x.write(0, 0, 5));
            lostBy("count with " + units, units, x -> x.write(1, 0, 5));
        }
        for (int units = 0; units < 2; units++) {
            lostBy("define with " + units, units, x -> x.define(2, false, 0));
            lostBy("remove with " + units, units, x -> x.remove(0));
        }
        enough(3, x -> x.write(0, 0, 5));
        enough(3, x -> x.write(1, 0, 5));
        enough(2, x -> x.define(2, false, 0));
        enough(2, x -> x.remove(0));
    }

    private static void lostBy(String what, int units, Consumer<TrustModule> call) {
        Supplier<TrustModule> make = () -> {
            TrustModule x = powered(Modules.full(), units);
            x.extend(0, 3, 3);
            x.pcr(1, 0, 8);
            x.primary(0, 5);
            x.load(0, 0);
            return x;
        };
        TrustModule x = make.get();
        Check.refused(what, Check.LOST, () -> call.accept(x));
        Check.is(what + ": left", x.count(3), 0);
        Check.is(what + ": lost", x.count(4), 1);
        Check.is(what + ": times", x.count(7), 1);
        TrustModule same = make.get();
        for (int what2 : new int[] {0, 1, 2, 5, 6}) {
            Check.is(what + ": count " + what2, x.count(what2), same.count(what2));
        }
        Check.is(what + ": pcr", x.told(0, 3), same.told(0, 3));
        Check.is(what + ": name", x.told(2, 1), same.told(2, 1));
        Check.is(what + ": digest", x.told(4, 1), same.told(4, 1));
        x.power(-1);
        Check.is(what + ": the cell", x.read(0), 77L);
        Check.is(what + ": the counter", x.read(1), 1L);
        Check.is(what + ": the next count", x.write(1, 0, 0), 2L);
        Check.is(what + ": indices", x.count(5), 2);
    }

    private static void enough(int units, Consumer<TrustModule> call) {
        TrustModule x = powered(Modules.full(), units);
        call.accept(x);
        Check.is("left of just enough", x.count(3), 0);
        Check.is("not lost with just enough", x.count(4), 0);
    }

    private static void lossLeavesTheSession() {
        TrustModule x = guardedWithPower(2, false);
        long digest = x.told(4, 0);
        Check.refused("lost", Check.LOST, () -> x.write(2, 0, 1));
        Check.is("power is lost", x.count(4), 1);
        Check.is("the session is as before", x.told(4, 0), digest);
        x.power(-1);
        Check.refused("still not written", Check.MISSING, () -> x.read(2));
    }
}

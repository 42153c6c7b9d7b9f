import java.util.ArrayList;
import java.util.LinkedHashMap;
import java.util.List;
import java.util.Map;
import java.util.function.ObjIntConsumer;
import java.util.function.Supplier;

/**
 * "'Bad' is IllegalArgumentException, a number out of range; first of all." For every number that the face takes: all
 * that are in range are taken, those on either side of it and the least and greatest int are refused, whatever else
 * there is to refuse, and change nothing.
 */
public final class NumbersTest {
    private static final Map<String, Supplier<TrustModule>> STATES = new LinkedHashMap<>();

    static {
        STATES.put("new", Modules::fresh);
        STATES.put("used", Modules::used);
        STATES.put("no room", Modules::crowded);
        STATES.put("locked", Modules::locked);
        STATES.put("changed", Modules::changed);
        STATES.put("no power left", () -> Modules.used(0));
        STATES.put("lost", Modules::lost);
    }

    private NumbersTest() {
    }

    public static void main(String[] args) {
        for (Range range : ranges()) {
            Check.says(range.where, range.words);
            inRange(range);
            outOfRange(range);
        }
        twoAtOnce();
        Check.end();
    }

    private static void inRange(Range range) {
        for (int number = range.least; number <= range.greatest; number++) {
            for (Map.Entry<String, Supplier<TrustModule>> state : STATES.entrySet()) {
                TrustModule x = state.getValue().get();
                int numberThen = number;
                String outcome = Check.outcome(() -> {
                    range.call.accept(x, numberThen);
                    return "done";
                });
                Check.is(range.what + " " + number + ", " + state.getKey() + ", is bad",
                        outcome.equals(Check.BAD.getSimpleName()), false);
            }
        }
    }

    private static void outOfRange(Range range) {
        int[] numbers = {range.least - 1, range.greatest + 1, range.least - 256, range.greatest + 256,
            Integer.MIN_VALUE, Integer.MAX_VALUE};
        for (int number : numbers) {
            for (Map.Entry<String, Supplier<TrustModule>> state : STATES.entrySet()) {
                Check.refusedUnchanged(range.what + " " + number + ", " + state.getKey(), state.getValue(), Check.BAD,
                        x -> range.call.accept(x, number));
            }
        }
    }

    private static void twoAtOnce() {
        Check.says("Terms", "\"Bad\" is IllegalArgumentException, a number out of range; first of all");
        Check.refusedUnchanged("extend", Modules::used, Check.BAD, x -> x.extend(2, 8, 1));
        Check.refusedUnchanged("create", Modules::used, Check.BAD, x -> x.create(4, 8, 1, 1, 1));
        Check.refusedUnchanged("load", Modules::used, Check.BAD, x -> x.load(-1, -1));
        Check.refusedUnchanged("tamper", Modules::used, Check.BAD, x -> x.tamper(8, 4, 1));
        Check.refusedUnchanged("unseal", Modules::used, Check.BAD, x -> x.unseal(4, 3));
        Check.refusedUnchanged("pcr", Modules::used, Check.BAD, x -> x.pcr(3, 2, 256));
        Check.refusedUnchanged("with", Modules::used, Check.BAD, x -> x.with(3, 4, 8));
        Check.refusedUnchanged("write", Modules::used, Check.BAD, x -> x.write(4, 3, 1));
        Check.refusedUnchanged("clock", Modules::used, Check.BAD, x -> x.clock(101, 3));
        Check.refusedUnchanged("told", Modules::used, Check.BAD, x -> x.told(5, 32));
    }

    private static List<Range> ranges() {
        List<Range> all = new ArrayList<>();
        ofPowerAndRegisters(all);
        ofKeys(all);
        ofSessions(all);
        ofTheStore(all);
        ofClockAndLooking(all);
        return all;
    }

    private static void ofPowerAndRegisters(List<Range> all) {
        all.add(new Range("Promise 2", "units of it (0 .. 100, -1: without limit)", "power", -1, 100,
                (x, n) -> x.power(n)));
        all.add(new Range("Promise 3", "BANKS 0 and 1", "extend of bank", 0, 1, (x, n) -> x.extend(n, 7, 1)));
        all.add(new Range("Promise 3", "PCRS 0 .. 7", "extend of pcr", 0, 7, (x, n) -> x.extend(1, n, 1)));
    }

    private static void ofKeys(List<Range> all) {
        all.add(new Range("Promise 4", "HIERARCHIES 0 OWNER, 1 PLATFORM, 2 NULL", "primary of hierarchy", 0, 2,
                (x, n) -> x.primary(n, 1)));
        all.add(new Range("Promise 5", "HANDLES 0 .. 3", "create under", 0, 3, (x, n) -> x.create(n, 7, 1, 1, 1)));
        for (int p = 0; p < 4; p++) {
            int pThen = p;
            all.add(new Range("Promise 5", "BLOBS 0 .. 7", "create under " + p + " blob", 0, 7,
                    (x, n) -> x.create(pThen, n, 1, 1, 1)));
            all.add(new Range("Promise 6", "BLOBS 0 .. 7", "load under " + p + " blob", 0, 7,
                    (x, n) -> x.load(pThen, n)));
        }
        for (int b : new int[] {0, 7}) {
            all.add(new Range("Promise 6", "HANDLES 0 .. 3", "load of blob " + b + " under", 0, 3,
                    (x, n) -> x.load(n, b)));
            all.add(new Range("Promise 7", "Long i (0 .. 3) of BLOB b", "tamper with blob " + b + " long", 0, 3,
                    (x, n) -> x.tamper(b, n, 1)));
        }
        all.add(new Range("Promise 7", "BLOBS 0 .. 7", "tamper with blob", 0, 7, (x, n) -> x.tamper(n, 3, 1)));
        all.add(new Range("Promise 8", "HANDLES 0 .. 3", "flush", 0, 3, (x, n) -> x.flush(n)));
        for (int word : new int[] {7, 8}) {
            all.add(new Range("Promise 9", "HANDLES 0 .. 3", "open by " + word, 0, 3, (x, n) -> x.open(n, word)));
        }
    }

    private static void ofSessions(List<Range> all) {
        for (int k = 0; k < 4; k++) {
            int kThen = k;
            all.add(new Range("Promise 10", "SESSIONS 0 .. 2", "unseal " + k + " by", 0, 2,
                    (x, n) -> x.unseal(kThen, n)));
            all.add(new Range("Promise 14", "SESSIONS 0 .. 2", "with " + k + " and a wrong word for session", 0, 2,
                    (x, n) -> x.with(n, kThen, 8)));
        }
        for (int s = 0; s < 3; s++) {
            int sThen = s;
            all.add(new Range("Promise 10", "HANDLES 0 .. 3", "unseal by " + s, 0, 3, (x, n) -> x.unseal(n, sThen)));
            all.add(new Range("Promise 14", "HANDLES 0 .. 3", "with for session " + s, 0, 3,
                    (x, n) -> x.with(sThen, n, 7)));
        }
        all.add(new Range("Promise 11", "SESSIONS 0 .. 2", "session", 0, 2, (x, n) -> x.session(n)));
        all.add(new Range("Promise 12", "SESSIONS 0 .. 2", "pcr of session", 0, 2, (x, n) -> x.pcr(n, 1, 255)));
        all.add(new Range("Promise 12", "BANKS 0 and 1", "pcr of bank", 0, 1, (x, n) -> x.pcr(0, n, 1)));
        all.add(new Range("Promise 12", "PCR, the mask 1 .. 255", "pcr of mask", 1, 255, (x, n) -> x.pcr(0, 0, n)));
        all.add(new Range("Promise 13", "SESSIONS 0 .. 2", "either", 0, 2, (x, n) -> x.either(n, 0, Modules.POLICY)));
        all.add(new Range("Promise 13", "SESSIONS 0 .. 2", "neither", 0, 2, (x, n) -> x.either(n, 1, 2)));
    }

    private static void ofTheStore(List<Range> all) {
        all.add(new Range("Promise 15", "INDICES 0 .. 3", "define", 0, 3, (x, n) -> x.define(n, false, 1)));
        all.add(new Range("Promise 16", "INDICES 0 .. 3", "remove", 0, 3, (x, n) -> x.remove(n)));
        all.add(new Range("Promise 17", "INDICES 0 .. 3", "write", 0, 3, (x, n) -> x.write(n, 0, 1)));
        for (int i = 0; i < 4; i++) {
            int index = i;
            all.add(new Range("Promise 17", "else s doesn't matter (but is 0 .. 2)", "write " + i + " by", 0, 2,
                    (x, n) -> x.write(index, n, 1)));
        }
        all.add(new Range("Promise 18", "INDICES 0 .. 3", "read", 0, 3, (x, n) -> x.read(n)));
    }

    private static void ofClockAndLooking(List<Range> all) {
        for (int how = 0; how < 3; how++) {
            int howThen = how;
            all.add(new Range("Promise 19", "units (0 .. 100)", "clock told " + how + " units", 0, 100,
                    (x, n) -> x.clock(n, howThen)));
        }
        all.add(new Range("Promise 19", "then FASTER (1), SLOWER (2), or neither (0)", "clock told", 0, 2,
                (x, n) -> x.clock(100, n)));
        all.add(new Range("Promise 21", "what", "told", 0, 4, (x, n) -> x.told(n, 2)));
        int[] greatest = {7, 7, 3, 31, 2};
        for (int what = 0; what < greatest.length; what++) {
            int whatThen = what;
            all.add(new Range("Promise 21", "i (0 .. " + greatest[what] + ")", "told " + what, 0, greatest[what],
                    (x, n) -> x.told(whatThen, n)));
        }
    }

    private record Range(String where, String words, String what, int least, int greatest,
            ObjIntConsumer<TrustModule> call) {
    }
}

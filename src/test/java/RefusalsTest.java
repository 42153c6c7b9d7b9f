import java.util.LinkedHashMap;
import java.util.Map;
import java.util.function.Consumer;
import java.util.function.Supplier;

/**
 * Each promise's own refusals, in the order of the promises, and which of two comes first; what is refused changes
 * nothing but what is said. Numbers out of range are NumbersTest's.
 */
public final class RefusalsTest {
    private static final Supplier<TrustModule> USED = Modules::used;
    private static final Supplier<TrustModule> CROWDED = Modules::crowded;
    private static final Supplier<TrustModule> LOCKED = Modules::locked;
    private static final Supplier<TrustModule> CHANGED = Modules::changed;

    private RefusalsTest() {
    }

    public static void main(String[] args) {
        lostComesNext();
        notRefusedWhenLost();
        primary();
        create();
        load();
        loadInThisOrder();
        tamperAndFlush();
        open();
        unseal();
        either();
        with();
        define();
        remove();
        write();
        read();
        told();
        countAndRateAreNeverRefused();
        Check.end();
    }

    private static void lostComesNext() {
        Check.says("Terms", "LOST: nothing can be done but power, tamper and looking (told, count, rate)");
        for (Map.Entry<String, Consumer<TrustModule>> call : callsOfAllKinds().entrySet()) {
            Check.refusedUnchanged(call.getKey(), Modules::lost, Check.LOST, call.getValue());
            Check.refusedUnchanged(call.getKey() + ", no room", Modules.lost(CROWDED), Check.LOST, call.getValue());
            Check.refusedUnchanged(call.getKey() + ", locked", Modules.lost(LOCKED), Check.LOST, call.getValue());
            Check.refusedUnchanged(call.getKey() + ", changed", Modules.lost(CHANGED), Check.LOST, call.getValue());
        }
    }

    /** What would be done, and what would be missing, forbidden, tampered with or a wrong guess, were power there. */
    private static Map<String, Consumer<TrustModule>> callsOfAllKinds() {
        Map<String, Consumer<TrustModule>> calls = new LinkedHashMap<>();
        calls.put("extend", x -> x.extend(0, 0, 1));
        calls.put("primary", x -> x.primary(0, 0));
        calls.put("create", x -> x.create(0, 0, 1, 1, 1));
        calls.put("create under none", x -> x.create(3, 0, 1, 1, 1));
        calls.put("create under no parent", x -> x.create(2, 0, 1, 1, 1));
        calls.put("load", x -> x.load(0, 0));
        calls.put("load under none", x -> x.load(3, 0));
        calls.put("load no blob", x -> x.load(0, 7));
        calls.put("load under no parent", x -> x.load(2, 0));
        calls.put("load under another parent", x -> x.load(1, 0));
        calls.put("flush", x -> x.flush(0));
        calls.put("flush a free handle", x -> x.flush(3));
        calls.put("open", x -> x.open(1, 7));
        calls.put("open without a word", x -> x.open(0, 7));
        calls.put("open a free handle", x -> x.open(3, 7));
        calls.put("open by a wrong word", x -> x.open(1, 8));
        calls.put("unseal", x -> x.unseal(2, 0));
        calls.put("unseal a free handle", x -> x.unseal(3, 0));
        calls.put("unseal by another session", x -> x.unseal(2, 1));
        calls.put("session", x -> x.session(0));
        calls.put("pcr", x -> x.pcr(0, 0, 1));
        calls.put("either", x -> x.either(0, 0, Modules.POLICY));
        calls.put("neither", x -> x.either(0, 1, 2));
        calls.put("with", x -> x.with(0, 1, 7));
        calls.put("with a free handle", x -> x.with(0, 3, 7));
        calls.put("with a wrong word", x -> x.with(0, 1, 8));
        calls.put("define", x -> x.define(3, true, 0));
        calls.put("define what is defined", x -> x.define(0, true, 0));
        calls.put("remove", x -> x.remove(0));
        calls.put("remove what is not defined", x -> x.remove(3));
        calls.put("write", x -> x.write(0, 0, 1));
        calls.put("count", x -> x.write(1, 0, 1));
        calls.put("write by policy", x -> x.write(2, 0, 1));
        calls.put("write by another session", x -> x.write(2, 1, 1));
        calls.put("write what is not defined", x -> x.write(3, 0, 1));
        calls.put("read", x -> x.read(0));
        calls.put("read what is not written", x -> x.read(2));
        calls.put("read what is not defined", x -> x.read(3));
        calls.put("clock", x -> x.clock(10, 1));
        calls.put("clock of none", x -> x.clock(0, 0));
        calls.put("clear", TrustModule::clear);
        return calls;
    }

    private static void notRefusedWhenLost() {
        TrustModule x = Modules.lost();
        TrustModule same = Modules.used();
        for (int i = 0; i < 8; i++) {
            Check.is("bank 0 pcr " + i, x.told(0, i), same.told(0, i));
            Check.is("bank 1 pcr " + i, x.told(1, i), same.told(1, i));
            Check.is("blobs' long " + i, x.told(3, i), same.told(3, i));
        }
        for (int i = 0; i < 3; i++) {
            Check.is("name " + i, x.told(2, i), same.told(2, i));
            Check.is("digest " + i, x.told(4, i), same.told(4, i));
        }
        int[] counts = {3, 1, 1, 0, 1, 3, 2, 1};
        for (int what = 0; what < counts.length; what++) {
            Check.is("count " + what, x.count(what), counts[what]);
        }
        Check.is("rate", x.rate(), 1.25);
        x.tamper(1, 3, -2);
        Check.is("tampered", x.told(3, 7), same.told(3, 7) ^ -2);
        x.power(0);
        Check.is("power", x.count(4), 0);
    }

    private static void primary() {
        Check.says("Promise 4", "none: no room");
        for (int hierarchy = 0; hierarchy < 3; hierarchy++) {
            int hierarchyThen = hierarchy;
            Check.refusedUnchanged("hierarchy " + hierarchy, CROWDED, Check.NO_ROOM, x -> x.primary(hierarchyThen, 1));
        }
    }

    private static void create() {
        Check.says("Promise 5", "free: missing");
        Check.refusedUnchanged("over a blob", USED, Check.MISSING, x -> x.create(3, 0, 2, 1, 1));
        Check.refusedUnchanged("over none", USED, Check.MISSING, x -> x.create(3, 7, 2, 1, 1));
        Check.refusedUnchanged("in a new object", Modules::fresh, Check.MISSING, x -> x.create(0, 0, 2, 1, 1));
        Supplier<TrustModule> flushed = Modules.then(USED, x -> x.flush(2));
        Check.refusedUnchanged("free now, no parent before", flushed, Check.MISSING, x -> x.create(2, 0, 2, 1, 1));
        Check.says("Promise 5", "no PARENT: FORBIDDEN");
        Check.refusedUnchanged("over a blob", USED, Check.FORBIDDEN, x -> x.create(2, 0, 2, 1, 1));
        Check.refusedUnchanged("over none", USED, Check.FORBIDDEN, x -> x.create(2, 7, 2, 1, 1));
    }

    private static void load() {
        Check.says("Promise 6", "one of them isn't there: missing");
        Check.refusedUnchanged("no key", USED, Check.MISSING, x -> x.load(3, 0));
        Check.refusedUnchanged("no blob", USED, Check.MISSING, x -> x.load(0, 2));
        Check.refusedUnchanged("no last blob", USED, Check.MISSING, x -> x.load(0, 7));
        Check.refusedUnchanged("neither", USED, Check.MISSING, x -> x.load(3, 7));
        Check.says("Promise 6", "no PARENT: FORBIDDEN");
        Check.refusedUnchanged("under an odd secret", USED, Check.FORBIDDEN, x -> x.load(2, 0));
        Check.says("Promise 6", "TAMPERED");
        for (int i = 0; i < 4; i++) {
            for (long v : new long[] {1, 1L << 40, Long.MIN_VALUE, -1}) {
                Check.refusedUnchanged("long " + i + " by " + v, tampered(USED, i, v), Check.TAMPERED,
                        x -> x.load(0, 0));
            }
        }
        Check.refusedUnchanged("under another parent", USED, Check.TAMPERED, x -> x.load(1, 0));
        Check.says("Promise 6", "no room");
        Check.refusedUnchanged("a blob with a word", CROWDED, Check.NO_ROOM, x -> x.load(0, 0));
        Check.refusedUnchanged("a blob with a policy", CROWDED, Check.NO_ROOM, x -> x.load(0, 1));
    }

    private static Supplier<TrustModule> tampered(Supplier<TrustModule> make, int i, long v) {
        return Modules.then(make, x -> x.tamper(0, i, v));
    }

    private static void loadInThisOrder() {
        Check.says("Promise 6", "in this order");
        Check.refusedUnchanged("missing before FORBIDDEN", USED, Check.MISSING, x -> x.load(2, 7));
        Check.refusedUnchanged("missing key before TAMPERED", tampered(USED, 0, 1), Check.MISSING, x -> x.load(3, 0));
        Check.refusedUnchanged("missing before no room", CROWDED, Check.MISSING, x -> x.load(0, 7));
        Check.refusedUnchanged("missing before FORBIDDEN and no room", CROWDED, Check.MISSING, x -> x.load(2, 7));
        for (int i = 0; i < 4; i++) {
            Check.refusedUnchanged("FORBIDDEN before TAMPERED", tampered(USED, i, 1), Check.FORBIDDEN,
                    x -> x.load(2, 0));
            Check.refusedUnchanged("TAMPERED before no room", tampered(CROWDED, i, 1), Check.TAMPERED,
                    x -> x.load(0, 0));
        }
        Check.refusedUnchanged("FORBIDDEN before no room", CROWDED, Check.FORBIDDEN, x -> x.load(2, 0));
        Check.refusedUnchanged("another parent before no room", CROWDED, Check.TAMPERED, x -> x.load(3, 0));
    }

    private static void tamperAndFlush() {
        Check.says("Promise 7", "none: missing");
        for (int b = 2; b < 8; b++) {
            int bThen = b;
            Check.refusedUnchanged("blob " + b, USED, Check.MISSING, x -> x.tamper(bThen, 0, 1));
            Check.refusedUnchanged("blob " + b + " when lost", Modules::lost, Check.MISSING,
                    x -> x.tamper(bThen, 3, 1));
        }
        Check.says("Promise 8", "It is: missing");
        Check.refusedUnchanged("never held", USED, Check.MISSING, x -> x.flush(3));
        Check.refusedUnchanged("flushed before", Modules.then(USED, x -> x.flush(0)), Check.MISSING, x -> x.flush(0));
    }

    private static void open() {
        Check.says("Promise 9", "free: missing");
        Check.refusedUnchanged("free", USED, Check.MISSING, x -> x.open(3, 7));
        Check.refusedUnchanged("free, by any word", USED, Check.MISSING, x -> x.open(3, 0));
        Check.refusedUnchanged("before LOCKED", LOCKED, Check.MISSING, x -> x.open(3, 7));
        Supplier<TrustModule> flushed = Modules.then(USED, x -> x.flush(1));
        Check.refusedUnchanged("before a WRONG GUESS at what was there", flushed, Check.MISSING, x -> x.open(1, 8));
        Check.says("Terms", "is LOCKED (before the WORD is looked at)");
        Check.refusedUnchanged("by its word", LOCKED, Check.LOCKED, x -> x.open(1, 7));
        Check.refusedUnchanged("by a wrong word", LOCKED, Check.LOCKED, x -> x.open(1, 8));
        Check.refusedUnchanged("by 0", LOCKED, Check.LOCKED, x -> x.open(1, 0));
        wrongGuess("open", x -> x.open(1, 8));
        wrongGuess("open by 0", x -> x.open(1, 0));
        wrongGuess("open by the least", x -> x.open(1, Integer.MIN_VALUE));
        wrongGuess("open by the greatest", x -> x.open(1, Integer.MAX_VALUE));
    }

    /** It is counted and sets the mark, which the clock takes away again; then all must be as without it. */
    private static void wrongGuess(String what, Consumer<TrustModule> call) {
        Check.says("Terms", "What throws changes nothing but what is said (a WRONG GUESS is counted)");
        TrustModule x = Modules.used();
        Check.refused(what, Check.WRONG_GUESS, () -> call.accept(x));
        Check.is(what + " is counted", x.count(1), 2);
        Check.same(what + ", all the same as another wrong guess", Modules.tried(USED, call),
                Modules.then(USED, Modules::guess));
        Check.same(what + ", forgiven", Modules.then(Modules.tried(USED, call), y -> y.clock(20, 0)),
                Modules.then(USED, y -> y.clock(20, 0)));
    }

    private static void unseal() {
        Check.says("Promise 10", "free: missing");
        Check.refusedUnchanged("free", USED, Check.MISSING, x -> x.unseal(3, 0));
        Supplier<TrustModule> flushed = Modules.then(CHANGED, x -> x.flush(2));
        Check.refusedUnchanged("before CHANGED", flushed, Check.MISSING, x -> x.unseal(2, 0));
        Check.says("Terms", "the KEY must have a POLICY");
        Check.refusedUnchanged("none, a digest", USED, Check.FORBIDDEN, x -> x.unseal(1, 0));
        Check.refusedUnchanged("none, the digest 0", USED, Check.FORBIDDEN, x -> x.unseal(1, 2));
        Check.refusedUnchanged("a primary key, the digest 0", USED, Check.FORBIDDEN, x -> x.unseal(0, 2));
        Check.says("Terms", "and the SESSION's DIGEST be the same (else FORBIDDEN)");
        Check.refusedUnchanged("another", USED, Check.FORBIDDEN, x -> x.unseal(2, 1));
        Check.refusedUnchanged("0", USED, Check.FORBIDDEN, x -> x.unseal(2, 2));
        Supplier<TrustModule> farther = Modules.then(CHANGED, x -> x.with(0, 0, 0));
        Check.refusedUnchanged("before CHANGED", farther, Check.FORBIDDEN, x -> x.unseal(2, 0));
        Check.refusedUnchanged("no POLICY before CHANGED", CHANGED, Check.FORBIDDEN, x -> x.unseal(1, 0));
        Check.says("Terms", "the PCR COUNT must be what it was when it last did (else CHANGED)");
        Check.refusedUnchanged("another pcr", CHANGED, Check.CHANGED, x -> x.unseal(2, 0));
        Supplier<TrustModule> again = Modules.then(USED, x -> x.extend(0, 1, 9));
        Check.refusedUnchanged("the same pcr again", again, Check.CHANGED, x -> x.unseal(2, 0));
    }

    private static void either() {
        Check.says("Terms", "the DIGEST must be a or b, else FORBIDDEN");
        Check.refusedUnchanged("neither", USED, Check.FORBIDDEN, x -> x.either(0, 0, 1));
        Check.refusedUnchanged("neither, one more and one less", USED, Check.FORBIDDEN,
                x -> x.either(0, Modules.POLICY - 1, Modules.POLICY + 1));
        Check.refusedUnchanged("the least and the greatest", USED, Check.FORBIDDEN,
                x -> x.either(2, Long.MIN_VALUE, Long.MAX_VALUE));
        Check.refusedUnchanged("another session's", USED, Check.FORBIDDEN,
                x -> x.either(2, Modules.POLICY, Modules.POLICY));
    }

    private static void with() {
        Check.says("Promise 14", "free: missing");
        for (int s = 0; s < 3; s++) {
            int sThen = s;
            Check.refusedUnchanged("free", USED, Check.MISSING, x -> x.with(sThen, 3, 7));
            Check.refusedUnchanged("before LOCKED", LOCKED, Check.MISSING, x -> x.with(sThen, 3, 7));
        }
        Check.says("Terms", "is LOCKED (before the WORD is looked at)");
        for (int s = 0; s < 3; s++) {
            int sThen = s;
            Check.refusedUnchanged("with its word", LOCKED, Check.LOCKED, x -> x.with(sThen, 1, 7));
            Check.refusedUnchanged("with a wrong word", LOCKED, Check.LOCKED, x -> x.with(sThen, 1, 8));
            wrongGuess("with, session " + s, x -> x.with(sThen, 1, 8));
            wrongGuess("with 0, session " + s, x -> x.with(sThen, 1, 0));
        }
    }

    private static void define() {
        Check.says("Promise 15", "it's DEFINED: no room");
        for (boolean counter : new boolean[] {false, true}) {
            for (int i = 0; i < 3; i++) {
                int index = i;
                Check.refusedUnchanged("index " + i, USED, Check.NO_ROOM, x -> x.define(index, counter, 5));
                Check.refusedUnchanged("before the PARTS " + i, () -> Modules.used(1), Check.NO_ROOM,
                        x -> x.define(index, counter, 0));
            }
        }
    }

    private static void remove() {
        Check.says("Promise 16", "not DEFINED: missing");
        Check.refusedUnchanged("never", USED, Check.MISSING, x -> x.remove(3));
        for (int units = 0; units < 2; units++) {
            int unitsThen = units;
            Check.refusedUnchanged("before the PARTS", () -> Modules.used(unitsThen), Check.MISSING, x -> x.remove(3));
        }
        Check.refusedUnchanged("removed", Modules.then(USED, x -> x.remove(0)), Check.MISSING, x -> x.remove(0));
    }

    private static void write() {
        Check.says("Promise 17", "not DEFINED: missing");
        Check.refusedUnchanged("never", USED, Check.MISSING, x -> x.write(3, 0, 1));
        Check.refusedUnchanged("removed", Modules.then(USED, x -> x.remove(1)), Check.MISSING, x -> x.write(1, 0, 1));
        Supplier<TrustModule> gone = Modules.then(CHANGED, x -> x.remove(2));
        Check.refusedUnchanged("before FORBIDDEN", gone, Check.MISSING, x -> x.write(2, 1, 1));
        Check.refusedUnchanged("before CHANGED", gone, Check.MISSING, x -> x.write(2, 0, 1));
        Check.says("Promise 17", "by SESSION s, as for KEYS, before all PARTS");
        for (int units = 0; units < 4; units++) {
            int unitsThen = units;
            Supplier<TrustModule> few = () -> Modules.used(unitsThen);
            Supplier<TrustModule> fewChanged = Modules.then(few, x -> x.extend(1, 7, 0));
            Check.refusedUnchanged("missing, units " + units, few, Check.MISSING, x -> x.write(3, 0, 1));
            Check.refusedUnchanged("FORBIDDEN, units " + units, few, Check.FORBIDDEN, x -> x.write(2, 1, 1));
            Check.refusedUnchanged("FORBIDDEN, digest 0, units " + units, few, Check.FORBIDDEN,
                    x -> x.write(2, 2, 1));
            Check.refusedUnchanged("CHANGED, units " + units, fewChanged, Check.CHANGED, x -> x.write(2, 0, 1));
        }
        Supplier<TrustModule> farther = Modules.then(CHANGED, x -> x.with(0, 0, 0));
        Check.refusedUnchanged("FORBIDDEN before CHANGED", farther, Check.FORBIDDEN, x -> x.write(2, 0, 1));
        Supplier<TrustModule> counter = Modules.then(USED, x -> x.define(3, true, Modules.POLICY));
        Check.refusedUnchanged("a COUNTER, FORBIDDEN", counter, Check.FORBIDDEN, x -> x.write(3, 1, 1));
        Supplier<TrustModule> changedCounter = Modules.then(counter, x -> x.extend(1, 7, 0));
        Check.refusedUnchanged("a COUNTER, CHANGED", changedCounter, Check.CHANGED, x -> x.write(3, 0, 1));
    }

    private static void read() {
        Check.says("Promise 18", "Not DEFINED or not WRITTEN: missing");
        Check.refusedUnchanged("not DEFINED", USED, Check.MISSING, x -> x.read(3));
        Check.refusedUnchanged("a CELL not WRITTEN", USED, Check.MISSING, x -> x.read(2));
        Supplier<TrustModule> counter = Modules.then(USED, x -> x.define(3, true, 0));
        Check.refusedUnchanged("a COUNTER not WRITTEN", counter, Check.MISSING, x -> x.read(3));
        Supplier<TrustModule> removed = Modules.then(USED, x -> x.remove(0));
        Check.refusedUnchanged("removed, though WRITTEN", removed, Check.MISSING, x -> x.read(0));
        Supplier<TrustModule> anew = Modules.then(removed, x -> x.define(0, false, 0));
        Check.refusedUnchanged("DEFINED anew", anew, Check.MISSING, x -> x.read(0));
    }

    private static void told() {
        Check.says("Promise 21", "Not there: missing");
        Check.refusedUnchanged("a free handle", USED, Check.MISSING, x -> x.told(2, 3));
        Check.refusedUnchanged("a free handle when lost", Modules::lost, Check.MISSING, x -> x.told(2, 3));
        for (int i = 8; i < 32; i++) {
            int iThen = i;
            Check.refusedUnchanged("no blob, " + i, USED, Check.MISSING, x -> x.told(3, iThen));
            Check.refusedUnchanged("no blob when lost, " + i, Modules::lost, Check.MISSING, x -> x.told(3, iThen));
        }
    }

    private static void countAndRateAreNeverRefused() {
        Check.says("Promise 22", "else -1");
        for (int what : new int[] {Integer.MIN_VALUE, -2, -1, 8, 9, 256, Integer.MAX_VALUE}) {
            Check.is("count " + what, Modules.used().count(what), -1);
            Check.is("count " + what + " when lost", Modules.lost().count(what), -1);
            Check.same("count " + what + " changes nothing", Modules.then(USED, x -> x.count(what)), USED);
        }
        Check.same("told and rate change nothing", Modules.then(USED, x -> {
            x.told(0, 0);
            x.told(2, 0);
            x.told(3, 0);
            x.told(4, 0);
            x.count(7);
            x.rate();
        }), USED);
    }
}

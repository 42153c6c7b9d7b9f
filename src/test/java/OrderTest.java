import java.util.LinkedHashMap;
import java.util.Map;
import java.util.function.Consumer;

/** Promise 24 and the order of refusals: Bad first of all, then LOST, whatever else there is to refuse. */
public final class OrderTest {
    private OrderTest() {
    }

    public static void main(String[] args) {
        for (Map.Entry<String, Consumer<TrustModule>> call : badCalls().entrySet()) {
            Check.refusedUnchanged("bad: " + call.getKey(), Modules::crowded, Check.BAD, call.getValue());
            Check.refusedUnchanged("bad before lost: " + call.getKey(), Modules::lost, Check.BAD, call.getValue());
        }
        for (Map.Entry<String, Consumer<TrustModule>> call : missingCalls().entrySet()) {
            Check.refusedUnchanged("missing: " + call.getKey(), Modules::fresh, Check.MISSING, call.getValue());
            Check.refusedUnchanged("lost before missing: " + call.getKey(), OrderTest::lostAndEmpty, Check.LOST,
                    call.getValue());
        }
        sameCallsSameAnswers();
        Check.end();
    }

    private static TrustModule lostAndEmpty() {
        TrustModule x = Modules.fresh();
        x.power(1);
        Check.refused("define", Check.LOST, () -> x.define(0, true, 0));
        return x;
    }

    private static Map<String, Consumer<TrustModule>> badCalls() {
        Map<String, Consumer<TrustModule>> calls = new LinkedHashMap<>();
        for (int far : new int[] {Integer.MIN_VALUE, -2, 256, Integer.MAX_VALUE}) {
            calls.put("power " + far, x -> x.power(far));
            calls.put("extend bank " + far, x -> x.extend(far, 0, 0));
            calls.put("extend pcr " + far, x -> x.extend(0, far, 0));
            calls.put("primary " + far, x -> x.primary(far, 0));
            calls.put("create under " + far, x -> x.create(far, 0, 0, 0, 0));
            calls.put("create " + far, x -> x.create(0, far, 0, 0, 0));
            calls.put("load under " + far, x -> x.load(far, 0));
            calls.put("load " + far, x -> x.load(0, far));
            calls.put("tamper blob " + far, x -> x.tamper(far, 0, 1));
            calls.put("tamper long " + far, x -> x.tamper(0, far, 1));
            calls.put("flush " + far, x -> x.flush(far));
            calls.put("open " + far, x -> x.open(far, 0));
            calls.put("unseal " + far, x -> x.unseal(far, 0));
            calls.put("unseal by " + far, x -> x.unseal(2, far));
            calls.put("session " + far, x -> x.session(far));
            calls.put("pcr session " + far, x -> x.pcr(far, 0, 1));
            calls.put("pcr bank " + far, x -> x.pcr(0, far, 1));
            calls.put("pcr mask " + far, x -> x.pcr(0, 0, far));
            calls.put("either " + far, x -> x.either(far, 0, 0));
            calls.put("with session " + far, x -> x.with(far, 0, 0));
            calls.put("with handle " + far, x -> x.with(0, far, 0));
            calls.put("define " + far, x -> x.define(far, false, 0));
            calls.put("remove " + far, x -> x.remove(far));
            calls.put("write " + far, x -> x.write(far, 0, 0));
            calls.put("write by " + far, x -> x.write(0, far, 0));
            calls.put("read " + far, x -> x.read(far));
            calls.put("clock units " + far, x -> x.clock(far, 0));
            calls.put("clock how " + far, x -> x.clock(0, far));
            calls.put("told " + far, x -> x.told(far, 0));
        }
        return calls;
    }

    private static Map<String, Consumer<TrustModule>> missingCalls() {
        Map<String, Consumer<TrustModule>> calls = new LinkedHashMap<>();
        calls.put("create", x -> x.create(0, 0, 0, 0, 0));
        calls.put("load", x -> x.load(0, 0));
        calls.put("flush", x -> x.flush(0));
        calls.put("open", x -> x.open(0, 0));
        calls.put("unseal", x -> x.unseal(0, 0));
        calls.put("with", x -> x.with(0, 0, 0));
        calls.put("remove", x -> x.remove(0));
        calls.put("write", x -> x.write(0, 0, 0));
        calls.put("read", x -> x.read(0));
        return calls;
    }

    private static void sameCallsSameAnswers() {
        Check.is("two objects apart", State.of(Modules.full()), State.of(Modules.full()));
        TrustModule one = Modules.fresh();
        TrustModule other = Modules.fresh();
        one.extend(0, 0, 1);
        one.define(0, true, 0);
        one.write(0, 0, 0);
        Check.is("the other's pcr", other.told(0, 0), 0L);
        Check.is("the other's indices", other.count(5), 0);
    }
}

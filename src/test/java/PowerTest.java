/** Promises 1, 2 and 24: a new object, power that comes, and power that is lost. */
public final class PowerTest {
    private PowerTest() {
    }

    public static void main(String[] args) {
        aNewObject();
        seeds(5);
        seeds(-1);
        seeds(Integer.MIN_VALUE);
        unitsInRange();
        unitsOutOfRange();
        whatGoesWhenPowerComes();
        whatStaysWhenPowerComes();
        nullSeedGoesOn();
        powerComesAfterLoss();
        unlimitedPowerIsNotUsedUp();
        onlyTheStoreCostsPower();
        Check.end();
    }

    private static void aNewObject() {
        TrustModule x = Modules.fresh();
        int[] counts = {0, 0, 0, -1, 0, 0, 0, 0};
        for (int what = 0; what < counts.length; what++) {
            Check.is("count of a new object " + what, x.count(what), counts[what]);
        }
        for (int i = 0; i < 8; i++) {
            Check.is("bank 0 pcr " + i, x.told(0, i), 0L);
            Check.is("bank 1 pcr " + i, x.told(1, i), 0L);
        }
        for (int s = 0; s < 3; s++) {
            Check.is("digest " + s, x.told(4, s), 0L);
        }
        Check.is("rate", x.rate(), 1.0);
        Check.is("clock", x.clock(0, 0), 0.0);
    }

    private static void seeds(int s) {
        TrustModule x = new TrustModule(s);
        long[] seeds = {Check.h(s, 0), Check.h(s, 1), Check.h(Check.h(s, 2), 5)};
        for (int hierarchy = 0; hierarchy < 3; hierarchy++) {
            Check.is("handle", x.primary(hierarchy, 17), hierarchy);
            Check.is("seed " + hierarchy + " of " + s, x.told(2, hierarchy),
                    Check.nameOf(Check.h(seeds[hierarchy], 17), 0, 0, 0));
        }
    }

    private static void unitsInRange() {
        for (int units : new int[] {-1, 0, 1, 99, 100}) {
            TrustModule x = Modules.fresh();
            x.power(units);
            Check.is("power left of " + units, x.count(3), units);
            Check.is("not lost with " + units, x.count(4), 0);
        }
    }

    private static void unitsOutOfRange() {
        for (int units : new int[] {-2, 101, Integer.MIN_VALUE, Integer.MAX_VALUE}) {
            Check.refusedUnchanged("power " + units, Modules::full, Check.BAD, x -> x.power(units));
            Check.refusedUnchanged("power " + units + " when lost", Modules::lost, Check.BAD, x -> x.power(units));
        }
    }

    private static void whatGoesWhenPowerComes() {
        TrustModule x = Modules.full();
        x.extend(1, 7, 3);
        x.with(1, 0, 0);
        x.power(9);
        Check.is("keys", x.count(0), 0);
        Check.is("pcr count", x.count(2), 0);
        Check.is("bank 0", x.told(0, 1), 0L);
        Check.is("bank 1", x.told(1, 7), 0L);
        Check.is("session 0", x.told(4, 0), 0L);
        Check.is("session 1", x.told(4, 1), 0L);
        Check.refused("handle 0", Check.MISSING, () -> x.told(2, 0));
        Check.is("the least free handle", x.primary(0, 0), 0);
        sessionsForgetThatTheyLooked();
    }

    private static void sessionsForgetThatTheyLooked() {
        TrustModule x = Modules.fresh();
        x.extend(0, 0, 1);
        x.pcr(0, 0, 1);
        x.power(-1);
        long digest = x.either(0, 0, 0);
        x.define(0, false, digest);
        Check.is("a session that looked before power came", x.write(0, 0, 4), 4L);
    }

    private static void whatStaysWhenPowerComes() {
        TrustModule x = Modules.full();
        x.clock(3, 1);
        Check.refused("a wrong guess", Check.WRONG_GUESS, () -> x.open(1, 8));
        x.power(9);
        Check.is("guesses", x.count(1), 1);
        Check.is("indices", x.count(5), 2);
        Check.is("blobs", x.count(6), 2);
        Check.is("times lost", x.count(7), 0);
        Check.is("cell", x.read(0), 77L);
        Check.is("counter", x.read(1), 1L);
        Check.is("rate", x.rate(), 1.25);
        Check.is("clock", x.clock(0, 0), 3.0);
        Check.is("the owner's seed", x.primary(0, 5), 0);
        Check.is("a blob of before", x.load(0, 0), 1);
        Check.is("its secret", x.open(1, 7), 42L);
    }

    private static void nullSeedGoesOn() {
        TrustModule x = new TrustModule(6);
        long seed = Check.h(Check.h(6, 2), 5);
        for (int i = 0; i < 3; i++) {
            x.primary(2, 1);
            Check.is("null seed " + i, x.told(2, 0), Check.nameOf(Check.h(seed, 1), 0, 0, 0));
            x.power(i);
            seed = Check.h(seed, 5);
        }
        x.primary(1, 1);
        Check.is("platform seed", x.told(2, 0), Check.nameOf(Check.h(Check.h(6, 1), 1), 0, 0, 0));
    }

    private static void powerComesAfterLoss() {
        TrustModule x = Modules.lost();
        Check.is("lost", x.count(4), 1);
        Check.is("left", x.count(3), 0);
        Check.is("keys stay until power comes", x.count(0), 3);
        Check.is("sessions stay until power comes", x.told(4, 0), Modules.full().told(4, 0));
        Check.is("pcrs stay until power comes", x.told(0, 1), Check.h(0, 9));
        x.power(2);
        Check.is("keys go", x.count(0), 0);
        Check.is("sessions begin anew", x.told(4, 0), 0L);
        Check.is("pcrs begin anew", x.told(0, 1), 0L);
        Check.is("no longer lost", x.count(4), 0);
        Check.is("left after power", x.count(3), 2);
        Check.is("times", x.count(7), 1);
        x.define(2, false, 0);
        Check.is("left after define", x.count(3), 0);
        Check.is("none left is not yet lost", x.count(4), 0);
        Check.refused("lost again", Check.LOST, () -> x.remove(2));
        Check.is("times again", x.count(7), 2);
        Check.refused("while lost", Check.LOST, () -> x.remove(2));
        Check.is("a call while lost does not lose power again", x.count(7), 2);
    }

    private static void unlimitedPowerIsNotUsedUp() {
        TrustModule x = Modules.fresh();
        x.power(5);
        x.power(-1);
        x.define(0, false, 0);
        for (int i = 0; i < 50; i++) {
            x.write(0, 0, i);
        }
        x.remove(0);
        Check.is("unlimited", x.count(3), -1);
    }

    private static void onlyTheStoreCostsPower() {
        TrustModule x = Modules.full();
        x.power(0);
        x.extend(0, 0, 1);
        x.primary(0, 5);
        x.create(0, 3, 8, 0, 0);
        x.load(0, 3);
        x.tamper(3, 0, 1);
        x.open(1, 0);
        x.session(0);
        x.pcr(0, 0, 1);
        x.with(0, 0, 0);
        x.either(0, x.told(4, 0), 0);
        x.flush(1);
        x.clock(1, 0);
        x.read(0);
        x.clear();
        Check.is("left", x.count(3), 0);
        Check.is("lost", x.count(4), 0);
    }
}

/** Promises 1, 2 and 24: a new object, power that comes, and power that is lost. */
public final class PowerTest {
    private PowerTest() {
    }

    public static void main(String[] args) {
        aNewObject();
        seeds();
        unitsInRange();
        whatGoesWhenPowerComes();
        sessionsForgetThatTheyLooked();
        whatStaysWhenPowerComes();
        guessesStay();
        nullSeedGoesOn();
        alsoIfItWasNotLost();
        powerComesAfterLoss();
        noneLeftIsNotLost();
        withoutLimit();
        onlyTheStoreCostsPower();
        Check.end();
    }

    private static void aNewObject() {
        TrustModule x = Modules.fresh();
        Check.says("Promise 24", "At first, too, power is without limit (count(3) is -1)");
        Check.is("power left", x.count(3), -1);
        Check.says("Promise 1", "power has come");
        int[] counts = {0, 0, 0, -1, 0, 0, 0, 0};
        for (int what = 0; what < counts.length; what++) {
            Check.is("count " + what, x.count(what), counts[what]);
        }
        for (int i = 0; i < 8; i++) {
            Check.is("bank 0 pcr " + i, x.told(0, i), 0L);
            Check.is("bank 1 pcr " + i, x.told(1, i), 0L);
        }
        for (int k = 0; k < 4; k++) {
            int kThen = k;
            Check.refused("handle " + k, Check.MISSING, () -> x.told(2, kThen));
            Check.refused("index " + k, Check.MISSING, () -> x.read(kThen));
        }
        for (int i = 0; i < 32; i++) {
            int iThen = i;
            Check.refused("blobs' long " + i, Check.MISSING, () -> x.told(3, iThen));
        }
        for (int s = 0; s < 3; s++) {
            Check.is("digest " + s, x.told(4, s), 0L);
        }
        Check.is("rate", x.rate(), 1.0);
        Check.is("clock", x.clock(0, 0), 0.0);
    }

    private static void seeds() {
        Check.says("Promise 1", "The SEEDS are H(s, 0), H(s, 1) and H(s, 2)");
        for (int s : new int[] {0, 1, -1, 5, Integer.MIN_VALUE, Integer.MAX_VALUE}) {
            TrustModule x = new TrustModule(s);
            long[] seeds = {Check.h(s, 0), Check.h(s, 1), Check.h(Check.h(s, 2), 5)};
            for (int hierarchy = 0; hierarchy < 3; hierarchy++) {
                Check.is("handle", x.primary(hierarchy, 17), hierarchy);
                Check.is("seed " + hierarchy + " of " + s, x.told(2, hierarchy),
                        Check.nameOf(Check.h(seeds[hierarchy], 17), 0, 0, 0));
            }
        }
    }

    private static void unitsInRange() {
        Check.says("Promise 2", "units of it (0 .. 100, -1: without limit)");
        for (int units = -1; units <= 100; units++) {
            TrustModule x = Modules.fresh();
            x.power(units);
            Check.is("power left of " + units, x.count(3), units);
            Check.is("lost with " + units, x.count(4), 0);
            TrustModule y = Modules.lost();
            y.power(units);
            Check.is("power left of " + units + " after a loss", y.count(3), units);
            Check.is("lost with " + units + " after a loss", y.count(4), 0);
        }
    }

    private static void whatGoesWhenPowerComes() {
        Check.says("Terms", "all PCRS are 0, the PCR COUNT, HANDLES are free, SESSIONS begin anew");
        TrustModule x = Modules.crowded();
        for (int i = 0; i < 8; i++) {
            x.extend(0, i, 3);
            x.extend(1, i, 3);
        }
        x.pcr(2, 1, 255);
        x.power(9);
        for (int i = 0; i < 8; i++) {
            Check.is("bank 0 pcr " + i, x.told(0, i), 0L);
            Check.is("bank 1 pcr " + i, x.told(1, i), 0L);
        }
        Check.is("pcr count", x.count(2), 0);
        Check.is("keys", x.count(0), 0);
        for (int k = 0; k < 4; k++) {
            int kThen = k;
            Check.refused("handle " + k, Check.MISSING, () -> x.told(2, kThen));
        }
        for (int s = 0; s < 3; s++) {
            Check.is("session " + s, x.told(4, s), 0L);
        }
        Check.is("the least free handle", x.primary(0, 0), 0);
    }

    private static void sessionsForgetThatTheyLooked() {
        for (int s = 0; s < 3; s++) {
            TrustModule x = Modules.fresh();
            x.extend(0, 0, 1);
            x.pcr(s, 0, 1);
            x.power(-1);
            x.define(0, false, x.either(s, 0, 0));
            Check.is("session " + s + " looked before power came", x.write(0, s, 4), 4L);
        }
    }

    private static void whatStaysWhenPowerComes() {
        Check.says("Terms", "WRONG GUESSES stay");
        TrustModule x = Modules.used();
        x.power(9);
        Check.is("guesses", x.count(1), 1);
        Check.says("Terms", "When power comes");
        Check.is("indices", x.count(5), 3);
        Check.is("blobs", x.count(6), 2);
        Check.is("times lost", x.count(7), 0);
        Check.is("cell", x.read(0), 77L);
        Check.is("counter", x.read(1), 1L);
        Check.refused("a cell not written", Check.MISSING, () -> x.read(2));
        Check.is("rate", x.rate(), 1.25);
        Check.is("clock", x.clock(0, 0), 5.5);
        Check.is("the owner's seed", x.primary(0, 5), 0);
        Check.is("a blob of before", x.load(0, 0), 1);
        Check.is("its secret", x.open(1, 7), 42L);
    }

    private static void guessesStay() {
        Check.says("Terms", "WRONG GUESSES stay");
        TrustModule x = Modules.locked();
        x.power(-1);
        Check.is("three", x.count(1), 3);
        x.primary(0, 5);
        x.load(0, 0);
        Check.refused("locked as before", Check.LOCKED, () -> x.open(1, 7));
    }

    private static void nullSeedGoesOn() {
        Check.says("Terms", "the NULL SEED becomes H(it, 5)");
        TrustModule x = new TrustModule(6);
        long seed = Check.h(Check.h(6, 2), 5);
        for (int i = -1; i < 3; i++) {
            x.primary(2, 1);
            Check.is("null seed " + i, x.told(2, 0), Check.nameOf(Check.h(seed, 1), 0, 0, 0));
            x.power(i);
            seed = Check.h(seed, 5);
        }
        x.define(0, false, 0);
        Check.refused("lost", Check.LOST, () -> x.define(1, false, 0));
        x.power(-1);
        x.primary(2, 1);
        Check.is("null seed after a loss", x.told(2, 0), Check.nameOf(Check.h(Check.h(seed, 5), 1), 0, 0, 0));
        x.primary(1, 1);
        Check.is("platform seed", x.told(2, 1), Check.nameOf(Check.h(Check.h(6, 1), 1), 0, 0, 0));
        x.primary(0, 1);
        Check.is("owner seed", x.told(2, 2), Check.nameOf(Check.h(Check.h(6, 0), 1), 0, 0, 0));
    }

    private static void alsoIfItWasNotLost() {
        Check.says("Promise 2", "also if it wasn't LOST");
        TrustModule x = Modules.used();
        x.power(7);
        Check.is("instead of what was left", x.count(3), 7);
        Check.is("times lost", x.count(7), 0);
        x.power(7);
        Check.is("not added", x.count(3), 7);
        x.power(-1);
        Check.is("without limit again", x.count(3), -1);
    }

    private static void powerComesAfterLoss() {
        Check.says("Promise 2", "Power comes, with units of it");
        TrustModule x = Modules.lost();
        Check.is("lost", x.count(4), 1);
        Check.is("keys stay until power comes", x.count(0), 3);
        Check.is("sessions stay until power comes", x.told(4, 0), Modules.POLICY);
        Check.is("pcrs stay until power comes", x.told(0, 1), Check.h(0, 9));
        x.power(2);
        Check.is("keys go", x.count(0), 0);
        Check.is("sessions begin anew", x.told(4, 0), 0L);
        Check.is("pcrs begin anew", x.told(0, 1), 0L);
        Check.is("no longer lost", x.count(4), 0);
        Check.is("times", x.count(7), 1);
        x.define(3, false, 0);
        Check.refused("lost again", Check.LOST, () -> x.remove(3));
        Check.is("times again", x.count(7), 2);
        Check.refused("while lost", Check.LOST, () -> x.remove(3));
        Check.is("a call while lost does not lose power again", x.count(7), 2);
    }

    private static void noneLeftIsNotLost() {
        Check.says("Terms", "if there is none left for a PART, power is LOST");
        TrustModule x = Modules.fresh();
        x.power(0);
        Check.is("0 units are not LOST", x.count(4), 0);
        x.power(2);
        x.define(0, false, 0);
        Check.is("left", x.count(3), 0);
        Check.is("none left is not LOST", x.count(4), 0);
        Check.is("and all else can be done", x.extend(0, 0, 1), Check.h(0, 1));
        Check.refused("a PART", Check.LOST, () -> x.write(0, 0, 1));
        Check.is("LOST", x.count(4), 1);
    }

    private static void withoutLimit() {
        Check.says("Terms", "uses up one unit of POWER, if it is limited");
        for (int i = 0; i < 2; i++) {
            TrustModule x = Modules.fresh();
            if (i == 1) {
                x.power(5);
                x.power(-1);
            }
            x.define(0, false, 0);
            for (int v = 0; v < 150; v++) {
                x.write(0, 0, v);
            }
            x.remove(0);
            Check.is("left", x.count(3), -1);
            Check.is("lost", x.count(4), 0);
        }
    }

    private static void onlyTheStoreCostsPower() {
        Check.says("Terms", "THE STORE ... takes three PARTS, and DEFINING and removing two");
        TrustModule x = Modules.used();
        x.power(0);
        x.extend(0, 0, 1);
        x.primary(0, 5);
        x.create(0, 3, 8, 0, 0);
        x.load(0, 3);
        x.tamper(3, 0, 1);
        x.open(1, 0);
        x.session(0);
        long digest = x.pcr(0, 0, 1);
        x.with(0, 0, 0);
        x.either(0, x.told(4, 0), 0);
        x.create(0, 3, 9, 0, digest);
        x.load(0, 3);
        x.pcr(1, 0, 1);
        x.unseal(2, 1);
        x.flush(1);
        x.clock(1, 0);
        x.read(0);
        x.clear();
        Check.is("left", x.count(3), 0);
        Check.is("lost", x.count(4), 0);
    }
}

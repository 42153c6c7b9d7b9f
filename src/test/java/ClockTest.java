/** Promises 19 and 23: clock and rate. */
public final class ClockTest {
    private ClockTest() {
    }

    public static void main(String[] args) {
        goesOn();
        rateChangesAfterwards();
        neverAboveFour();
        neverBelowAQuarter();
        rateWhenLost();
        clockRefused();
        Check.end();
    }

    private static void goesOn() {
        TrustModule x = Modules.fresh();
        Check.is("none", x.clock(0, 0), 0.0);
        Check.is("some", x.clock(7, 0), 7.0);
        Check.is("most", x.clock(100, 0), 107.0);
        Check.is("rate", x.rate(), 1.0);
    }

    private static void rateChangesAfterwards() {
        TrustModule x = Modules.fresh();
        Check.is("at the old rate", x.clock(10, 1), 10.0);
        Check.is("faster", x.rate(), 1.25);
        Check.is("at the faster one", x.clock(10, 2), 22.5);
        Check.is("slower", x.rate(), 0.9375);
        Check.is("at the slower one", x.clock(2, 0), 24.375);
        Check.is("neither", x.rate(), 0.9375);
    }

    private static void neverAboveFour() {
        TrustModule x = Modules.fresh();
        double rate = 1.0;
        for (int i = 0; i < 6; i++) {
            x.clock(0, 1);
            rate = rate * 1.25;
            Check.is("faster", x.rate(), rate);
        }
        x.clock(0, 1);
        Check.is("stays, and does not become 4.0", x.rate(), rate);
        x.clock(0, 2);
        Check.is("slower from there", x.rate(), rate * 0.75);
    }

    private static void neverBelowAQuarter() {
        TrustModule x = Modules.fresh();
        double rate = 1.0;
        for (int i = 0; i < 4; i++) {
            x.clock(0, 2);
            rate = rate * 0.75;
            Check.is("slower", x.rate(), rate);
        }
        x.clock(0, 2);
        Check.is("stays, and does not become 0.25", x.rate(), rate);
        x.clock(0, 1);
        Check.is("faster from there", x.rate(), rate * 1.25);
        Check.is("the clock at that rate", x.clock(3, 0), 3 * (rate * 1.25));
    }

    private static void rateWhenLost() {
        TrustModule x = Modules.fresh();
        x.clock(5, 1);
        x.power(0);
        Check.refused("lost", Check.LOST, () -> x.define(0, true, 0));
        Check.is("rate", x.rate(), 1.25);
        x.power(-1);
        Check.is("the clock stays over a loss", x.clock(0, 0), 5.0);
    }

    private static void clockRefused() {
        for (int units : new int[] {-1, 101, Integer.MIN_VALUE, Integer.MAX_VALUE}) {
            Check.refusedUnchanged("units " + units, Modules::full, Check.BAD, x -> x.clock(units, 1));
            Check.refusedUnchanged("bad before lost", Modules::lost, Check.BAD, x -> x.clock(units, 1));
        }
        for (int how : new int[] {-1, 3}) {
            Check.refusedUnchanged("how " + how, Modules::full, Check.BAD, x -> x.clock(5, how));
        }
        Check.refusedUnchanged("clock when lost", Modules::lost, Check.LOST, x -> x.clock(5, 1));
    }
}

/** Promises 19 and 23: clock and rate. */
public final class ClockTest {
    private static final double MOST = 4.0;
    private static final double LEAST = 0.25;

    private ClockTest() {
    }

    public static void main(String[] args) {
        goesOn();
        eachNumberOfUnits();
        rateChangesAfterwards();
        neverAboveFour();
        neverBelowAQuarter();
        betweenTheBounds();
        staysOverPowerAndClear();
        Check.end();
    }

    private static void goesOn() {
        Check.says("Terms", "THE CLOCK, a double, 0.0 at first, goes on by units times RATE");
        TrustModule x = Modules.fresh();
        Check.is("none", x.clock(0, 0), 0.0);
        Check.is("some", x.clock(7, 0), 7.0);
        Check.is("none again", x.clock(0, 0), 7.0);
        Check.is("most", x.clock(100, 0), 107.0);
        Check.is("rate", x.rate(), 1.0);
    }

    private static void eachNumberOfUnits() {
        for (int units = 0; units <= 100; units++) {
            TrustModule x = Modules.fresh();
            Check.is("at 1.0", x.clock(units, 1), (double) units);
            Check.is("at 1.25", x.clock(units, 2), units + units * 1.25);
            Check.is("at 0.9375", x.clock(units, 0), units + units * 1.25 + units * 0.9375);
        }
    }

    private static void rateChangesAfterwards() {
        Check.says("Promise 19", "then FASTER (1), SLOWER (2), or neither (0). Answers the CLOCK");
        TrustModule x = Modules.fresh();
        Check.is("at the old rate", x.clock(10, 1), 10.0);
        Check.is("faster", x.rate(), 1.25);
        Check.is("at the faster one", x.clock(10, 2), 22.5);
        Check.is("slower", x.rate(), 0.9375);
        Check.is("at the slower one", x.clock(2, 0), 24.375);
        Check.is("neither", x.rate(), 0.9375);
        x.clock(0, 2);
        Check.is("slower by no units", x.rate(), 0.9375 * 0.75);
    }

    private static void neverAboveFour() {
        Check.says("Terms", "but never above 4.0 ... (then it stays)");
        TrustModule x = Modules.fresh();
        double rate = 1.0;
        for (int i = 0; i < 6; i++) {
            x.clock(0, 1);
            rate = rate * 1.25;
            Check.is("faster", x.rate(), rate);
        }
        for (int i = 0; i < 3; i++) {
            Check.is("the clock goes on all the same", x.clock(2, 1), 2 * rate * (i + 1));
            Check.is("stays, and does not become 4.0", x.rate(), rate);
        }
        x.clock(0, 2);
        Check.is("slower from there", x.rate(), rate * 0.75);
    }

    private static void neverBelowAQuarter() {
        Check.says("Terms", "or below 0.25 (then it stays)");
        TrustModule x = Modules.fresh();
        double rate = 1.0;
        for (int i = 0; i < 4; i++) {
            x.clock(0, 2);
            rate = rate * 0.75;
            Check.is("slower", x.rate(), rate);
        }
        for (int i = 0; i < 3; i++) {
            Check.is("the clock goes on all the same", x.clock(2, 2), 2 * rate * (i + 1));
            Check.is("stays, and does not become 0.25", x.rate(), rate);
        }
        x.clock(0, 1);
        Check.is("faster from there", x.rate(), rate * 1.25);
    }

    /** Many ways to the bounds, among them rates close to them. */
    private static void betweenTheBounds() {
        Check.says("Terms", "FASTER makes it RATE * 1.25, SLOWER RATE * 0.75, but never above 4.0 or below 0.25");
        for (int pattern = 1; pattern < 64; pattern++) {
            TrustModule x = Modules.fresh();
            double rate = 1.0;
            double now = 0.0;
            for (int i = 0; i < 120; i++) {
                int how = (pattern >> i % 6 & 1) == 1 ? 1 : 2;
                now = now + 3 * rate;
                Check.is("clock, pattern " + pattern + " call " + i, x.clock(3, how), now);
                double wanted = how == 1 ? rate * 1.25 : rate * 0.75;
                rate = wanted > MOST || wanted < LEAST ? rate : wanted;
                Check.is("rate, pattern " + pattern + " call " + i, x.rate(), rate);
            }
        }
    }

    private static void staysOverPowerAndClear() {
        Check.says("Promise 23", "RATE");
        TrustModule x = Modules.fresh();
        x.clock(5, 1);
        x.power(0);
        Check.refused("lost", Check.LOST, () -> x.define(0, true, 0));
        Check.is("rate when lost", x.rate(), 1.25);
        Check.refused("no clock when lost", Check.LOST, () -> x.clock(1, 2));
        x.power(-1);
        Check.is("the clock after a loss", x.clock(0, 0), 5.0);
        Check.is("the rate after a loss", x.rate(), 1.25);
        x.clear();
        Check.is("the clock after clear", x.clock(0, 0), 5.0);
        Check.is("the rate after clear", x.rate(), 1.25);
    }
}

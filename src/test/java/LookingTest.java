/** Promises 21 and 22: told and count. */
public final class LookingTest {
    private LookingTest() {
    }

    public static void main(String[] args) {
        toldInRange();
        toldOutOfRange();
        toldMissing();
        toldWhenLost();
        counts();
        countOfAnythingElse();
        Check.end();
    }

    private static void toldInRange() {
        TrustModule x = Modules.crowded();
        for (int b = 2; b < 8; b++) {
            x.create(0, b, b, 0, 100 + b);
        }
        Check.is("pcr", x.told(0, 1), Check.h(0, 9));
        Check.is("the other bank", x.told(1, 1), 0L);
        Check.is("the last pcr", x.told(1, 7), 0L);
        Check.is("the last handle", x.told(2, 3), Check.nameOf(Check.h(Check.h(1, 1), 1), 0, 0, 0));
        for (int b = 2; b < 8; b++) {
            Check.is("blob " + b, x.told(3, b * 4 + 2), 100L + b);
        }
        Check.is("session 2", x.told(4, 2), 0L);
    }

    private static void toldOutOfRange() {
        int[][] bad = {{-1, 0}, {5, 0}, {0, -1}, {0, 8}, {1, -1}, {1, 8}, {2, -1}, {2, 4}, {3, -1}, {3, 32}, {4, -1},
            {4, 3}, {Integer.MIN_VALUE, 0}, {Integer.MAX_VALUE, 0}, {3, Integer.MAX_VALUE}};
        for (int[] row : bad) {
            String what = "told " + row[0] + " " + row[1];
            Check.refusedUnchanged(what, Modules::crowded, Check.BAD, x -> x.told(row[0], row[1]));
            Check.refusedUnchanged(what + " when lost", Modules::lost, Check.BAD, x -> x.told(row[0], row[1]));
        }
    }

    private static void toldMissing() {
        TrustModule x = Modules.full();
        Check.refusedUnchanged("a free handle", Modules::full, Check.MISSING, y -> y.told(2, 3));
        for (int i = 8; i < 32; i++) {
            int iThen = i;
            Check.refused("no blob at " + i, Check.MISSING, () -> x.told(3, iThen));
        }
    }

    private static void toldWhenLost() {
        TrustModule x = Modules.fresh();
        x.power(1);
        x.extend(1, 2, 3);
        x.primary(0, 0);
        x.create(0, 0, 1, 1, 55);
        x.with(2, 0, 0);
        Check.refused("lost", Check.LOST, () -> x.define(0, true, 0));
        Check.is("pcr", x.told(1, 2), Check.h(0, 3));
        long name = Check.nameOf(Check.h(Check.h(1, 0), 0), 0, 0, 0);
        Check.is("name", x.told(2, 0), name);
        Check.is("blob", x.told(3, 2), 55L);
        Check.is("digest", x.told(4, 2), Check.h(Check.h(0, 13), name));
        int[] counts = {1, 0, 1, 0, 1, 0, 1, 1};
        for (int what = 0; what < counts.length; what++) {
            Check.is("count " + what + " when lost", x.count(what), counts[what]);
        }
    }

    private static void counts() {
        TrustModule x = Modules.crowded();
        x.define(3, true, 0);
        Check.refused("a wrong guess", Check.WRONG_GUESS, () -> x.open(1, 0));
        x.create(0, 7, 0, 0, 0);
        int[] due = {4, 1, 1, -1, 0, 3, 3, 0};
        for (int what = 0; what < due.length; what++) {
            Check.is("count " + what, x.count(what), due[what]);
        }
        x.power(100);
        Check.is("power left", x.count(3), 100);
    }

    private static void countOfAnythingElse() {
        TrustModule x = Modules.full();
        for (int what : new int[] {-1, 8, 9, Integer.MIN_VALUE, Integer.MAX_VALUE}) {
            Check.is("count " + what, x.count(what), -1);
        }
    }
}

/** Promises 34 to 38. */
final class HeatTest {
    public static void main(String[] args) {
        hardening();
        cutGrowth();
        cleanness();
        casesAndGrinding();
        burning();
        refusals();
        states();
        Check.end();
    }

    private static Hobhouse shopWith(int gears, int stock) {
        Hobhouse x = new Hobhouse();
        x.hob(2000, 1, 60000, 20);
        for (int i = 0; i < gears; i++) {
            x.gear(24, 2000, 0, 20000);
            x.cut(i, 0, stock);
        }
        return x;
    }

    private static void hardening() {
        Hobhouse x = shopWith(3, 40);
        // It grows by 48000 3 / 10000 = 14, and warps by 48000 48000 / 20000 / 2000 = 57.
        Check.is(71, () -> x.harden(0, 8, false));
        Check.is(42, () -> x.harden(1, 1, true));
        Check.is(1414, () -> x.caseOf(0));
        Check.is(500, () -> x.caseOf(1));
        Check.is(0, () -> x.caseOf(2));
        Check.is(71, () -> x.harden(2, 99, false));
        Check.is(4974, () -> x.caseOf(2));
        Check.is(Check.NO_INDEX, () -> x.caseOf(3));
        Check.is(Check.NO_INDEX, () -> x.caseOf(-1));
        // 91 999 = 90909: 27 and 90909 90909 / 1777 / 2000 = 2325.
        x.gear(91, 999, 0, 1777);
        x.hob(999, 1, 60000, 20);
        x.cut(3, 1, 0);
        Check.is(27 + 2325, () -> x.harden(3, 2, false));
        x.gear(91, 999, 0, 1777);
        x.cut(4, 1, 0);
        Check.is(27 + 1162, () -> x.harden(4, 2, true));
        x.gear(200, 10000, 0, 99999);
        x.hob(10000, 1, 200000, 20);
        x.cut(5, 2, 0);
        Check.is(600 + 20000, () -> x.harden(5, 4, false));
        Check.is(1000, () -> x.caseOf(5));
    }

    /** 3 times 33333 is just too little for a growth of 10, and 3 times 33334 is enough. */
    private static void cutGrowth() {
        int[][] gears = {{41, 813, 9}, {14, 2381, 10}};
        for (int[] gear : gears) {
            Hobhouse x = new Hobhouse();
            x.gear(gear[0], gear[1], 0, 99999);
            x.hob(gear[1], 1, 60000, 20);
            x.cut(0, 0, 0);
            // The warp is 33333 33333 / 99999 / 2000, 5 and a bit, of which 2 are left in a press.
            Check.is(gear[2] + 2, () -> x.harden(0, 1, true));
        }
    }

    private static void cleanness() {
        Hobhouse x = shopWith(0, 0);
        int[] stocks = {70, 71, 41, 42, 80};
        for (int i = 0; i < 5; i++) {
            x.gear(24, 2000, 0, 20000);
            x.cut(i, 0, stocks[i]);
        }
        Check.is(Check.NOT_ALLOWED, () -> x.isClean(0));
        x.harden(0, 1, false);
        x.harden(1, 1, false);
        x.harden(2, 1, true);
        x.harden(3, 1, true);
        Check.is(false, () -> x.isClean(0));
        Check.is(true, () -> x.isClean(1));
        Check.is(false, () -> x.isClean(2));
        Check.is(true, () -> x.isClean(3));
        x.grind(1, 20, 100);
        Check.is(true, () -> x.isClean(1));
        // The stock is what is on the flanks when the gear is hardened.
        x.grind(4, 10, 100);
        x.harden(4, 1, false);
        Check.is(false, () -> x.isClean(4));
        Check.is(Check.NO_INDEX, () -> x.isClean(5));
        Check.is(Check.NO_INDEX, () -> x.isClean(-1));
    }

    private static void casesAndGrinding() {
        Hobhouse x = shopWith(2, 500);
        Check.is(480, () -> x.grind(0, 20, 1));
        x.harden(0, 1, false);
        Check.is(500, () -> x.caseOf(0));
        Check.is(460, () -> x.grind(0, 20, 999));
        Check.is(480, () -> x.caseOf(0));
        x.harden(1, 1, false);
        for (int left = 470; left >= 20; left -= 30) {
            int due = left;
            Check.is(due, () -> x.grind(1, 30, 100));
        }
        Check.is(20, () -> x.caseOf(1));
        Check.is('h', () -> x.stateOf(1));
        Check.is(0, () -> x.grind(1, 99, 999));
        Check.is(0, () -> x.caseOf(1));
        Check.is('g', () -> x.stateOf(1));
        Check.is(Check.NOT_ALLOWED, () -> x.grind(1, 1, 1));
    }

    private static void burning() {
        int[][] passes = {{30, 100, 'c'}, {31, 100, 'x'}, {31, 1, 'x'}, {20, 101, 'c'}, {21, 101, 'x'},
            {21, 100, 'c'}, {20, 999, 'c'}, {30, 101, 'x'}, {99, 1, 'x'}};
        Hobhouse x = shopWith(9, 100);
        for (int i = 0; i < passes.length; i++) {
            int gear = i;
            Check.is(100 - passes[gear][0], () -> x.grind(gear, passes[gear][0], passes[gear][1]));
            Check.is((char) passes[gear][2], () -> x.stateOf(gear));
        }
        Hobhouse y = shopWith(4, 21);
        Check.is(0, () -> y.grind(0, 21, 101));
        Check.is('x', () -> y.stateOf(0));
        Check.is(0, () -> y.grind(1, 99, 100));
        Check.is('g', () -> y.stateOf(1));
        Check.is(1, () -> y.grind(2, 20, 101));
        Check.is('c', () -> y.stateOf(2));
        Check.is(0, () -> y.grind(2, 1, 101));
        Check.is('g', () -> y.stateOf(2));
        Check.is(1.0f, () -> y.cutShare());
    }

    private static void refusals() {
        Hobhouse x = shopWith(3, 100);
        x.gear(24, 2000, 0, 20000);
        Check.is(Check.NO_INDEX, () -> x.harden(4, 0, true));
        Check.is(Check.NO_INDEX, () -> x.harden(-1, 1, true));
        Check.is(Check.BAD_ARGUMENT, () -> x.harden(3, 0, true));
        Check.is(Check.BAD_ARGUMENT, () -> x.harden(0, 100, true));
        Check.is(Check.NOT_ALLOWED, () -> x.harden(3, 1, true));
        Check.is(42, () -> x.harden(0, 1, true));
        Check.is(Check.NOT_ALLOWED, () -> x.harden(0, 9, false));
        Check.is(500, () -> x.caseOf(0));
        x.grind(1, 99, 1);
        Check.is(Check.NOT_ALLOWED, () -> x.harden(1, 1, true));
        Check.is(0, () -> x.caseOf(1));
        Check.is(Check.NO_INDEX, () -> x.grind(4, 0, 0));
        Check.is(Check.NO_INDEX, () -> x.grind(-1, 1, 1));
        Check.is(Check.BAD_ARGUMENT, () -> x.grind(3, 0, 1));
        Check.is(Check.BAD_ARGUMENT, () -> x.grind(0, 100, 1));
        Check.is(Check.BAD_ARGUMENT, () -> x.grind(0, 1, 0));
        Check.is(Check.BAD_ARGUMENT, () -> x.grind(0, 1, 1000));
        Check.is(Check.NOT_ALLOWED, () -> x.grind(3, 1, 1));
        Check.is(Check.NOT_ALLOWED, () -> x.grind(1, 1, 1));
        Check.is(2, () -> x.run(0, 2, 99999, 999999));
        Check.is(Check.NOT_ALLOWED, () -> x.grind(0, 1, 1));
        Check.is(Check.NOT_ALLOWED, () -> x.harden(2, 1, true));
        Check.is(0, () -> x.caseOf(2));
    }

    private static void states() {
        Hobhouse x = shopWith(2, 20);
        x.gear(24, 2000, 0, 20000);
        Check.is('b', () -> x.stateOf(2));
        Check.is('c', () -> x.stateOf(0));
        x.harden(0, 1, true);
        Check.is('h', () -> x.stateOf(0));
        x.grind(0, 20, 1);
        Check.is('g', () -> x.stateOf(0));
        x.grind(1, 20, 1);
        Check.is('g', () -> x.stateOf(1));
        x.harden(1, 1, true);
        Check.is('g', () -> x.stateOf(1));
        x.run(0, 1, 99999, 999999);
        Check.is('/', () -> x.stateOf(0));
        Check.is('/', () -> x.stateOf(1));
        Check.is(Check.NO_INDEX, () -> x.stateOf(3));
        Check.is(Check.NO_INDEX, () -> x.stateOf(-1));
    }
}

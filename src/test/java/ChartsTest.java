import java.util.Random;

/** Promises 39 to 43. */
final class ChartsTest {
    private static final int[] GRADES = {2, 3, 4, 6, 8, 11, 16, 22, 32, 45, 64, 90, 128};

    public static void main(String[] args) {
        charts();
        totals();
        grades();
        causes();
        Random random = new Random(6);
        for (int i = 0; i < 150; i++) {
            anyChart(random, i);
        }
        Check.end();
    }

    private static void charts() {
        Hobhouse x = new Hobhouse();
        x.gear(24, 2000, 0, 20000);
        Check.is(0, () -> x.chart(0, 0, 500));
        Check.is(500, () -> x.chart(0, 0, -500));
        Check.is(-500, () -> x.chart(0, 0, 0));
        Check.is(0, () -> x.chart(0, 23, 7));
        Check.is(Check.BAD_ARGUMENT, () -> x.chart(0, 24, 0));
        Check.is(Check.BAD_ARGUMENT, () -> x.chart(0, -1, 0));
        Check.is(Check.BAD_ARGUMENT, () -> x.chart(0, 23, 501));
        Check.is(Check.BAD_ARGUMENT, () -> x.chart(0, 23, -501));
        Check.is(Check.NO_INDEX, () -> x.chart(1, 24, 0));
        Check.is(Check.NO_INDEX, () -> x.chart(-1, 0, 0));
        Check.is(7, () -> x.chart(0, 23, 7));
    }

    private static void totals() {
        Hobhouse x = new Hobhouse();
        x.gear(24, 2000, 0, 20000);
        Check.is(0, () -> x.total(0));
        x.chart(0, 0, -1);
        Check.is(0, () -> x.total(0));
        x.chart(0, 0, 1);
        Check.is(0, () -> x.total(0));
        x.chart(0, 0, 5);
        x.chart(0, 12, -6);
        Check.is(5, () -> x.total(0));
        Check.is(Check.NO_INDEX, () -> x.total(1));
        Check.is(Check.NO_INDEX, () -> x.total(-1));
        for (int k = 0; k < 24; k++) {
            x.chart(0, k, 100);
        }
        Check.is(0, () -> x.total(0));
        x.gear(200, 2000, 0, 20000);
        for (int k = 0; k < 200; k++) {
            x.chart(1, k, k < 100 ? 500 : -500);
        }
        Check.is(50000, () -> x.total(1));
    }

    private static void grades() {
        Hobhouse x = new Hobhouse();
        x.gear(24, 2000, 0, 20000);
        Check.is(0, () -> x.grade(0));
        for (int i = 0; i < GRADES.length; i++) {
            int due = i;
            x.chart(0, 3, i % 2 == 0 ? GRADES[i] : -GRADES[i]);
            Check.is(due, () -> x.grade(0));
            x.chart(0, 3, i % 2 == 0 ? -GRADES[i] - 1 : GRADES[i] + 1);
            Check.is(due + 1, () -> x.grade(0));
        }
        x.chart(0, 3, 500);
        Check.is(13, () -> x.grade(0));
        Check.is(Check.NO_INDEX, () -> x.grade(1));
        Check.is(Check.NO_INDEX, () -> x.grade(-1));
        // Each pitch is of grade 0, but 8 of them are a total of 16, of which a fourth is of grade 2.
        x.gear(20, 2000, 0, 20000);
        for (int k = 0; k < 16; k++) {
            x.chart(1, k, k < 8 ? 2 : -2);
        }
        Check.is(16, () -> x.total(1));
        Check.is(2, () -> x.grade(1));
        x.chart(1, 17, 2);
        x.chart(1, 18, 2);
        Check.is(2, () -> x.grade(1));
        // Twice a profile error of 5 is of grade 5.
        x.hob(2000, 1, 60000, 3);
        for (int i = 0; i < 5; i++) {
            x.regrind(0);
        }
        x.gear(20, 2000, 0, 20000);
        x.cut(2, 0, 0);
        Check.is(5, () -> x.grade(2));
        x.chart(2, 0, 12);
        Check.is(6, () -> x.grade(2));
        x.chart(2, 0, 3);
        Check.is(5, () -> x.grade(2));
    }

    private static void causes() {
        Hobhouse x = new Hobhouse();
        x.gear(24, 2000, 0, 20000);
        x.gear(24, 2000, 0, 20000);
        x.gear(24, 2000, 0, 20000);
        x.hob(2000, 2, 60000, 3);
        x.cut(1, 0, 0);
        Check.is('n', () -> x.cause(0));
        x.setMachine(24, 8);
        // Each second pitch is 10 too great: the parts of 2 and 8 are 10, F is 5.
        for (int k = 0; k < 24; k += 2) {
            x.chart(0, k, 10);
            x.chart(1, k, 10);
        }
        Check.is(10, () -> x.part(0, 2));
        Check.is(10, () -> x.part(0, 8));
        Check.is(5, () -> x.total(0));
        Check.is('m', () -> x.cause(0));
        Check.is('m', () -> x.cause(1));
        // With 3 teeth in common the ghost is 0; only the gear that was cut has a hob.
        x.setMachine(24, 9);
        Check.is('s', () -> x.cause(0));
        Check.is('t', () -> x.cause(1));
        x.chart(1, 0, 300);
        Check.is('s', () -> x.cause(1));
        Check.is(Check.NO_INDEX, () -> x.cause(3));
        Check.is(Check.NO_INDEX, () -> x.cause(-1));
        hobThatDoesNotDivide();
        alikeCauses();
    }

    private static void hobThatDoesNotDivide() {
        Hobhouse x = new Hobhouse();
        x.gear(25, 2000, 0, 20000);
        x.hob(2000, 2, 60000, 3);
        x.cut(0, 0, 0);
        x.setMachine(24, 2);
        for (int k = 0; k < 25; k += 2) {
            x.chart(0, k, 10);
        }
        Check.is('s', () -> x.cause(0));
    }

    /** Of parts alike, the ghost comes ahead of the hob's, and this ahead of the setting's. */
    private static void alikeCauses() {
        Hobhouse x = new Hobhouse();
        x.gear(24, 2000, 0, 20000);
        x.hob(2000, 2, 60000, 3);
        x.cut(0, 0, 0);
        for (int k = 0; k < 24; k += 4) {
            x.chart(0, k, 12);
            x.chart(0, k + 1, 12);
        }
        Check.is(0, () -> x.part(0, 2));
        Check.is(12, () -> x.total(0));
        Check.is(12, () -> x.part(0, 4));
        x.setMachine(24, 4);
        Check.is('m', () -> x.cause(0));
        for (int k = 0; k < 24; k++) {
            x.chart(0, k, k % 2 == 0 ? 12 : -12);
        }
        Check.is(24, () -> x.part(0, 2));
        Check.is(24, () -> x.part(0, 4));
        Check.is('m', () -> x.cause(0));
        x.setMachine(24, 5);
        Check.is('t', () -> x.cause(0));
        for (int k = 0; k < 24; k++) {
            x.chart(0, k, 0);
        }
        // One pitch of 12: the part of 2 is 12 2 / 24 = 1, F is 12 23 / 24 = 11.
        x.chart(0, 0, 12);
        Check.is(1, () -> x.part(0, 2));
        Check.is(11, () -> x.total(0));
        Check.is('s', () -> x.cause(0));
        // One pitch of 1: F is 23 / 24 = 0, and the part of 2 is 2 / 24 = 0.
        x.chart(0, 0, 1);
        Check.is('n', () -> x.cause(0));
    }

    private static void anyChart(Random random, int round) {
        int[] teeth = {6, 12, 24, 36, 60, 60, 97, 120, 180, 200};
        int z = round % 3 == 0 ? 6 + random.nextInt(195) : teeth[random.nextInt(teeth.length)];
        int own = 2 + random.nextInt(199);
        int most = round % 2 == 0 ? 500 : 5;
        int[] errors = new int[z];
        Hobhouse x = new Hobhouse();
        x.gear(z, 2000, 0, 20000);
        x.hob(2000, 1 + random.nextInt(4), 60000, 3);
        x.setMachine(24, own);
        for (int i = 0; i < (round % 5 == 0 ? 400 : 5); i++) {
            int tooth = random.nextInt(z);
            int error = random.nextInt(2 * most + 1) - most;
            int before = errors[tooth];
            errors[tooth] = error;
            Check.is(before, () -> x.chart(0, tooth, error));
        }
        long total = dueTotal(errors);
        Check.is(total, () -> x.total(0));
        for (int period = 0; period <= z + 1; period++) {
            int p = period;
            boolean divides = p >= 1 && p <= z && z % p == 0;
            Check.is(divides ? (Object) duePart(errors, p) : Check.BAD_ARGUMENT, () -> x.part(0, p));
        }
        Check.is(Check.BAD_ARGUMENT, () -> x.part(0, 2 * z));
        Check.is(Check.BAD_ARGUMENT, () -> x.part(0, -1));
        Check.is(Check.NO_INDEX, () -> x.part(1, 0));
        Check.is(Check.NO_INDEX, () -> x.part(-1, 1));
        long ghost = duePart(errors, Check.divisor(own, z));
        Check.is(ghost == 0 && total == 0 ? 'n' : ghost >= total ? 'm' : 's', () -> x.cause(0));
    }

    private static long dueTotal(int[] errors) {
        long all = 0;
        for (int error : errors) {
            all += error;
        }
        long high = Long.MIN_VALUE;
        long low = Long.MAX_VALUE;
        for (int k = 0; k < errors.length; k++) {
            long ahead = 0;
            for (int i = 0; i < k; i++) {
                ahead += errors[i];
            }
            high = Math.max(high, errors.length * ahead - k * all);
            low = Math.min(low, errors.length * ahead - k * all);
        }
        return (high - low) / errors.length;
    }

    static long duePart(int[] errors, int period) {
        long[] sums = new long[period];
        for (int k = 0; k < errors.length; k++) {
            sums[k % period] += errors[k];
        }
        java.util.Arrays.sort(sums);
        return (sums[period - 1] - sums[0]) * period / errors.length;
    }
}

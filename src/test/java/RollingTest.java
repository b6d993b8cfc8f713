import java.util.Random;

/** Promises 44 to 47. */
final class RollingTest {
    public static void main(String[] args) {
        knownPairs();
        refusals();
        hunting();
        Random random = new Random(7);
        for (int i = 0; i < 80; i++) {
            anyPair(random, i);
        }
        Check.end();
    }

    private static void knownPairs() {
        Hobhouse x = new Hobhouse();
        x.gear(24, 2000, 0, 20000);
        x.gear(36, 2000, 0, 20000);
        Check.is(0, () -> x.peak(0, 1, 0));
        Check.is(0, () -> x.quietest(0, 1));
        x.chart(0, 0, 5);
        x.chart(0, 12, 5);
        x.chart(1, 3, 9);
        Check.is(11, () -> x.peak(0, 1, 0));
        Check.is(11, () -> x.peak(0, 1, 5));
        Check.is(8, () -> x.quietest(0, 1));
        Check.is(2, () -> x.note(0, 1, 12));
        Check.is(2, () -> x.note(1, 0, 12));
        Check.is(2, () -> x.note(0, 1, 9));
        Check.is(2, () -> x.note(1, 0, 9));
        Check.is(0, () -> x.note(0, 1, 5));
    }

    private static void refusals() {
        Hobhouse x = new Hobhouse();
        x.gear(20, 2000, 5, 20000);
        x.gear(25, 2000, -5, 20000);
        x.gear(25, 2000, 5, 20000);
        Check.is(Check.BAD_ARGUMENT, () -> x.peak(0, 1, 25));
        Check.is(Check.BAD_ARGUMENT, () -> x.peak(0, 1, -1));
        Check.is(Check.BAD_ARGUMENT, () -> x.peak(0, 2, 25));
        Check.is(Check.BAD_ARGUMENT, () -> x.peak(1, 0, 20));
        Check.is(0, () -> x.peak(0, 1, 24));
        Check.is(Check.NOT_ALLOWED, () -> x.peak(0, 2, 24));
        Check.is(Check.NOT_ALLOWED, () -> x.peak(0, 0, 0));
        Check.is(Check.NO_INDEX, () -> x.peak(3, 1, 25));
        Check.is(Check.NO_INDEX, () -> x.peak(0, 3, 25));
        Check.is(Check.NO_INDEX, () -> x.peak(-1, 0, 0));
        Check.is(Check.NO_INDEX, () -> x.quietest(0, 3));
        Check.is(Check.NO_INDEX, () -> x.quietest(3, 0));
        Check.is(Check.NOT_ALLOWED, () -> x.quietest(0, 2));
        Check.is(Check.NOT_ALLOWED, () -> x.quietest(1, 1));
        Check.is(Check.NO_INDEX, () -> x.note(0, 3, 0));
        Check.is(Check.NO_INDEX, () -> x.note(3, 0, 0));
        Check.is(Check.BAD_ARGUMENT, () -> x.note(0, 2, 0));
        Check.is(Check.BAD_ARGUMENT, () -> x.note(0, 1, 201));
        Check.is(0, () -> x.note(0, 1, 200));
        Check.is(0, () -> x.note(0, 1, 1));
        Check.is(Check.NOT_ALLOWED, () -> x.note(0, 2, 1));
        Check.is(Check.NOT_ALLOWED, () -> x.note(0, 0, 1));
    }

    private static void hunting() {
        Hobhouse x = new Hobhouse();
        x.gear(20, 2000, 0, 20000);
        x.gear(31, 2000, 0, 20000);
        x.gear(30, 2000, 0, 20000);
        x.gear(31, 2000, 1, 20000);
        Check.is(true, () -> x.hunts(0, 1));
        Check.is(true, () -> x.hunts(1, 0));
        Check.is(false, () -> x.hunts(0, 2));
        Check.is(Check.NOT_ALLOWED, () -> x.hunts(0, 3));
        Check.is(Check.NOT_ALLOWED, () -> x.hunts(1, 1));
        Check.is(Check.NO_INDEX, () -> x.hunts(0, 4));
        Check.is(Check.NO_INDEX, () -> x.hunts(4, 0));
    }

    static long[] stands(int[] errors) {
        long all = 0;
        for (int error : errors) {
            all += error;
        }
        long[] stands = new long[errors.length];
        long ahead = 0;
        for (int k = 0; k < errors.length; k++) {
            stands[k] = (errors.length * ahead - k * all) / errors.length;
            ahead += errors[k];
        }
        return stands;
    }

    /** Rolls tooth by tooth until both are where they began. */
    static long duePeak(int[] first, int[] second, int start) {
        long[] ones = stands(first);
        long[] others = stands(second);
        long high = Long.MIN_VALUE;
        long low = Long.MAX_VALUE;
        int steps = ones.length * others.length / Check.divisor(ones.length, others.length);
        for (int step = 0; step < steps; step++) {
            long sum = ones[step % ones.length] + others[(start + step) % others.length];
            high = Math.max(high, sum);
            low = Math.min(low, sum);
        }
        return high - low;
    }

    static int dueQuietest(int[] first, int[] second) {
        int quietest = 0;
        for (int start = 1; start < second.length; start++) {
            if (duePeak(first, second, start) < duePeak(first, second, quietest)) {
                quietest = start;
            }
        }
        return quietest;
    }

    static int[] fill(Hobhouse x, int gear, int teeth, Random random, int charts, int most) {
        int[] errors = new int[teeth];
        for (int i = 0; i < charts; i++) {
            int tooth = random.nextInt(teeth);
            errors[tooth] = random.nextInt(2 * most + 1) - most;
            x.chart(gear, tooth, errors[tooth]);
        }
        return errors;
    }

    private static void anyPair(Random random, int round) {
        Hobhouse x = new Hobhouse();
        int base = 6 + random.nextInt(20);
        int one = round % 4 == 0 ? base * (1 + random.nextInt(5)) : 6 + random.nextInt(60);
        int other = round % 4 == 0 ? base * (1 + random.nextInt(5)) : 6 + random.nextInt(60);
        int charts = round % 3 == 0 ? 3 : 100;
        int most = round % 2 == 0 ? 500 : 6;
        x.gear(one, 2000, 7, 20000);
        x.gear(other, 2000, -7, 20000);
        int[] first = fill(x, 0, one, random, charts, most);
        int[] second = fill(x, 1, other, random, charts, most);
        for (int start = 0; start < other; start += 1 + random.nextInt(3)) {
            int s = start;
            Check.is(duePeak(first, second, s), () -> x.peak(0, 1, s));
        }
        Check.is(dueQuietest(first, second), () -> x.quietest(0, 1));
        Check.is(dueQuietest(second, first), () -> x.quietest(1, 0));
        for (int period = 1; period <= 200; period++) {
            int p = period;
            boolean dividesOne = one % p == 0;
            boolean dividesOther = other % p == 0;
            long ofOne = dividesOne ? ChartsTest.duePart(first, p) : 0;
            long ofOther = dividesOther ? ChartsTest.duePart(second, p) : 0;
            long due = dividesOne && dividesOther ? Math.abs(ofOne - ofOther) : Math.max(ofOne, ofOther);
            Check.is(due, () -> x.note(0, 1, p));
        }
        Check.is(Check.divisor(one, other) == 1, () -> x.hunts(0, 1));
        Check.is(true, () -> x.isSound());
    }
}

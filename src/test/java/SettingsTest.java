import java.util.Random;

/** Promises 20 to 26. */
final class SettingsTest {
    public static void main(String[] args) {
        wheels();
        knownChanges();
        Random random = new Random(5);
        for (int i = 0; i < 60; i++) {
            anyBox(random, 4 + random.nextInt(i % 10 == 0 ? 13 : 4));
        }
        anyBox(random, 16);
        anyBox(random, 15);
        machineAndHobs();
        indexAndDifferential(random);
        refusals();
        Check.end();
    }

    private static void wheels() {
        Hobhouse x = new Hobhouse();
        Check.is(Check.BAD_ARGUMENT, () -> x.wheel(14));
        Check.is(Check.BAD_ARGUMENT, () -> x.wheel(128));
        Check.is(1, () -> x.wheel(127));
        Check.is(2, () -> x.wheel(15));
        Check.is(3, () -> x.wheel(15));
        Check.is(Check.NO_ELEMENT, () -> x.change(1, 1, 0));
        Check.is(Check.NO_ELEMENT, () -> x.meets(1, 1, 0));
        Check.is(4, () -> x.wheel(15));
        Check.is(15, () -> x.change(1, 1, 0));
        for (int i = 5; i <= 16; i++) {
            int due = i;
            Check.is(due, () -> x.wheel(20));
        }
        Check.is(Check.BAD_STATE, () -> x.wheel(20));
        Check.is(Check.BAD_ARGUMENT, () -> x.wheel(14));
    }

    private static void knownChanges() {
        Hobhouse x = new Hobhouse();
        for (int teeth : new int[] {60, 20, 24, 25, 50, 30, 36, 40, 45}) {
            x.wheel(teeth);
        }
        int[] due = {25, 20, 45, 40};
        for (int i = 0; i < 4; i++) {
            int index = i;
            Check.is(due[index], () -> x.change(17, 12, index));
        }
        // The error is 100 by 800 times 12: 1000000 times it is 7058 and a bit more times the ratio.
        Check.is(false, () -> x.meets(17, 12, 7352));
        Check.is(true, () -> x.meets(17, 12, 7353));
        Check.is(Check.BAD_ARGUMENT, () -> x.change(1, 1, 4));
        Check.is(Check.BAD_ARGUMENT, () -> x.change(1, 1, -1));
        Check.is(Check.BAD_ARGUMENT, () -> x.change(0, 1, 0));
        Check.is(Check.BAD_ARGUMENT, () -> x.change(1, 0, 0));
        Check.is(Check.BAD_ARGUMENT, () -> x.change(10000, 1, 0));
        Check.is(Check.BAD_ARGUMENT, () -> x.change(1, 10000, 0));
        Check.is(Check.BAD_ARGUMENT, () -> x.meets(0, 1, 0));
        Check.is(Check.BAD_ARGUMENT, () -> x.meets(1, 0, 0));
        Check.is(Check.BAD_ARGUMENT, () -> x.meets(10000, 1, 0));
        Check.is(Check.BAD_ARGUMENT, () -> x.meets(1, 10000, 0));
        Check.is(Check.BAD_ARGUMENT, () -> x.meets(1, 1, -1));
        Check.is(Check.BAD_ARGUMENT, () -> x.meets(1, 1, 1000000));
        Check.is(60, () -> x.change(9999, 1, 2));
        Check.is(true, () -> x.meets(17, 12, 7353));
        Check.is(false, () -> x.meets(17, 12, 7352));
        Check.is(true, () -> x.meets(1, 1, 0));
        Check.is(false, () -> x.meets(9999, 1, 900000));
        Check.is(20, () -> x.change(1, 9999, 0));
    }

    /** Goes through all fours, each wheel taken once. */
    static int[] bestFour(int[] box, long up, long down) {
        int[] best = null;
        for (int a = 0; a < box.length; a++) {
            for (int b = 0; b < box.length; b++) {
                for (int c = 0; c < box.length; c++) {
                    for (int d = 0; d < box.length; d++) {
                        if (a != b && a != c && a != d && b != c && b != d && c != d) {
                            int[] four = {box[a], box[b], box[c], box[d]};
                            if (best == null || isBefore(four, best, up, down)) {
                                best = four;
                            }
                        }
                    }
                }
            }
        }
        return best;
    }

    private static long errorOf(int[] four, long up, long down) {
        return Math.abs((long) four[0] * four[2] * down - (long) four[1] * four[3] * up);
    }

    private static boolean isBefore(int[] four, int[] best, long up, long down) {
        long error = errorOf(four, up, down) * best[1] * best[3];
        long least = errorOf(best, up, down) * four[1] * four[3];
        if (error != least) {
            return error < least;
        }
        for (int i = 0; i < 4; i++) {
            if (four[i] != best[i]) {
                return four[i] < best[i];
            }
        }
        return false;
    }

    /** The least parts of a million that the best four meet. */
    static long leastParts(int[] box, long up, long down) {
        int[] best = bestFour(box, up, down);
        long ratio = up * best[1] * best[3];
        return (1000000 * errorOf(best, up, down) + ratio - 1) / ratio;
    }

    private static void anyBox(Random random, int size) {
        Hobhouse x = new Hobhouse();
        int[] box = new int[size];
        int range = random.nextBoolean() ? 6 : 113;
        for (int i = 0; i < size; i++) {
            box[i] = 15 + random.nextInt(range);
            x.wheel(box[i]);
        }
        for (int i = 0; i < 10; i++) {
            int most = i % 2 == 0 ? 12 : 3000;
            int up = 1 + random.nextInt(most);
            int down = 1 + random.nextInt(most);
            int[] due = bestFour(box, up, down);
            for (int k = 0; k < 4; k++) {
                int index = k;
                Check.is(due[index], () -> x.change(up, down, index));
            }
            long parts = leastParts(box, up, down);
            if (parts <= 999999) {
                Check.is(true, () -> x.meets(up, down, (int) parts));
            }
            if (parts > 0) {
                Check.is(false, () -> x.meets(up, down, (int) Math.min(999999, parts - 1)));
            }
        }
    }

    private static void machineAndHobs() {
        Hobhouse x = new Hobhouse();
        Check.is(Check.BAD_ARGUMENT, () -> x.setMachine(0, 9));
        Check.is(Check.BAD_ARGUMENT, () -> x.setMachine(100, 9));
        Check.is(Check.BAD_ARGUMENT, () -> x.setMachine(1, 1));
        Check.is(Check.BAD_ARGUMENT, () -> x.setMachine(1, 201));
        Check.is(24, () -> x.setMachine(99, 200));
        Check.is(99, () -> x.setMachine(1, 2));
        Check.is(1, () -> x.setMachine(1, 2));
        int[][] wrong = {{499, 1, 20000, 1}, {10001, 1, 20000, 1}, {500, 0, 20000, 1}, {500, 5, 20000, 1},
            {500, 1, 19999, 1}, {500, 1, 200001, 1}, {500, 1, 20000, 0}, {500, 1, 20000, 21}};
        for (int[] w : wrong) {
            Check.is(Check.BAD_ARGUMENT, () -> x.hob(w[0], w[1], w[2], w[3]));
        }
        Check.is(0, () -> x.hob(500, 1, 20000, 1));
        Check.is(1, () -> x.hob(10000, 4, 200000, 20));
        for (int i = 2; i < 8; i++) {
            int due = i;
            Check.is(due, () -> x.hob(2000, 2, 60000, 2));
        }
        Check.is(Check.BAD_STATE, () -> x.hob(2000, 2, 60000, 2));
        Check.is(Check.BAD_ARGUMENT, () -> x.hob(2000, 2, 60000, 0));
        Check.is(0, () -> x.wear(1, 19));
        Check.is(Check.NO_INDEX, () -> x.approach(8));
    }

    private static void meetsFrom(long parts, Hobhouse x, int gear, int hob, boolean isIndex) {
        if (parts <= 999999) {
            Check.is(true, () -> isIndex ? x.indexes(gear, hob, (int) parts) : x.differs(gear, hob, (int) parts));
        }
        if (parts > 0) {
            int fewer = (int) Math.min(999999, parts - 1);
            Check.is(false, () -> isIndex ? x.indexes(gear, hob, fewer) : x.differs(gear, hob, fewer));
        }
    }

    private static void indexAndDifferential(Random random) {
        int[] box = {20, 24, 25, 30, 36, 40, 45, 50, 60};
        for (int i = 0; i < 40; i++) {
            Hobhouse x = new Hobhouse();
            for (int teeth : box) {
                x.wheel(teeth);
            }
            int teeth = 6 + random.nextInt(195);
            int module = 500 + random.nextInt(9501);
            int helix = random.nextInt(2) * 2 - 1 > 0 ? 1 + random.nextInt(500) : -1 - random.nextInt(500);
            int starts = 1 + random.nextInt(4);
            int constant = i % 4 == 0 ? 24 : 1 + random.nextInt(99);
            if (i % 4 != 0) {
                x.setMachine(constant, 60);
            }
            x.gear(teeth, module, helix, 20000);
            x.hob(module, starts, 60000, 3);
            meetsFrom(leastParts(box, (long) constant * starts, teeth), x, 0, 0, true);
            meetsFrom(leastParts(box, (long) Math.abs(helix) * constant, (long) module * starts), x, 0, 0, false);
        }
    }

    private static void refusals() {
        Hobhouse x = new Hobhouse();
        x.gear(20, 2000, 0, 20000);
        x.gear(20, 2000, 200, 20000);
        x.hob(2000, 1, 60000, 3);
        Check.is(Check.NO_ELEMENT, () -> x.indexes(0, 0, 0));
        Check.is(Check.NO_ELEMENT, () -> x.indexes(1, 0, 999999));
        Check.is(Check.BAD_ARGUMENT, () -> x.indexes(0, 0, -1));
        Check.is(Check.BAD_ARGUMENT, () -> x.indexes(0, 0, 1000000));
        Check.is(Check.NO_INDEX, () -> x.indexes(2, 0, -1));
        Check.is(Check.NO_INDEX, () -> x.indexes(0, 1, -1));
        Check.is(Check.NO_INDEX, () -> x.indexes(-1, 0, 0));
        Check.is(Check.NO_INDEX, () -> x.indexes(0, -1, 0));
        Check.is(Check.NO_ELEMENT, () -> x.differs(1, 0, 0));
        Check.is(Check.NOT_ALLOWED, () -> x.differs(0, 0, 0));
        Check.is(Check.BAD_ARGUMENT, () -> x.differs(0, 0, -1));
        Check.is(Check.BAD_ARGUMENT, () -> x.differs(0, 0, 1000000));
        Check.is(Check.NO_INDEX, () -> x.differs(2, 0, -1));
        Check.is(Check.NO_INDEX, () -> x.differs(0, 1, -1));
        for (int teeth : new int[] {20, 24, 25, 60}) {
            x.wheel(teeth);
        }
        Check.is(Check.NOT_ALLOWED, () -> x.differs(0, 0, 0));
        // 24 by 20, of 20, 24, 25 and 60, is 6 by 5: 60 20 by 25 24 is 2, 24 20 by 25 60 less.
        Check.is(leastParts(new int[] {20, 24, 25, 60}, 24, 20) == 0, () -> x.indexes(0, 0, 0));
    }
}

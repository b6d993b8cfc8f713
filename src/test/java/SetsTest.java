import java.util.ArrayList;
import java.util.List;
import java.util.Random;

/** Promises 52 to 54. */
final class SetsTest {
    public static void main(String[] args) {
        knownSets();
        refusals();
        whichAreLookedAt();
        alikeSums();
        Random random = new Random(9);
        for (int i = 0; i < 120; i++) {
            anySets(random);
        }
        Check.end();
    }

    private static Hobhouse shop() {
        Hobhouse x = new Hobhouse();
        x.hob(3000, 1, 80000, 20);
        x.hob(2500, 1, 80000, 20);
        return x;
    }

    private static void add(Hobhouse x, int number, int teeth) {
        x.gear(teeth, 3000, 0, 20000);
        x.cut(number, 0, 100);
    }

    private static void knownSets() {
        Hobhouse x = shop();
        add(x, 0, 20);
        add(x, 1, 20);
        add(x, 2, 31);
        add(x, 3, 31);
        x.chart(0, 3, 40);
        x.chart(1, 3, -9);
        x.chart(2, 7, 20);
        x.chart(3, 7, 3);
        Check.is(Check.NO_ELEMENT, () -> x.match(20, 31, 3));
        Check.is(Check.NO_ELEMENT, () -> x.mate(0));
        Check.is(Check.NOT_ALLOWED, () -> x.separate(0));
        Check.is(66, () -> x.match(20, 31, 2));
        Check.is(2, () -> x.mate(0));
        Check.is(0, () -> x.mate(2));
        Check.is(3, () -> x.mate(1));
        Check.is(1, () -> x.mate(3));
        Check.is(true, () -> x.isSound());
        Check.is(Check.NO_ELEMENT, () -> x.match(20, 31, 1));
        Check.is(Check.NOT_ALLOWED, () -> x.run(0, 3, 10, 10));
        Check.is(Check.NOT_ALLOWED, () -> x.run(3, 0, 10, 10));
        Check.is(0, () -> x.run(0, 2, 10, 10));
        Check.is(0, () -> x.run(2, 0, 10, 10));
        Check.is(0, () -> x.separate(2));
        Check.is(Check.NO_ELEMENT, () -> x.mate(2));
        Check.is(Check.NO_ELEMENT, () -> x.mate(0));
        Check.is(Check.NOT_ALLOWED, () -> x.separate(0));
        Check.is(Check.NOT_ALLOWED, () -> x.run(0, 3, 10, 10));
        Check.is(3, () -> x.separate(1));
        Check.is(0, () -> x.run(0, 3, 10, 10));
        // Of single sets, that of the gears with the least errors.
        Check.is(x.peak(3, 1, x.quietest(3, 1)), () -> x.match(31, 20, 1));
        Check.is(1, () -> x.mate(3));
        Check.is(Check.NO_ELEMENT, () -> x.mate(0));
        Check.is(Check.NO_INDEX, () -> x.mate(4));
        Check.is(Check.NO_INDEX, () -> x.mate(-1));
        Check.is(Check.NO_INDEX, () -> x.separate(4));
        Check.is(Check.NO_INDEX, () -> x.separate(-1));
    }

    private static void refusals() {
        Hobhouse x = shop();
        Check.is(Check.BAD_ARGUMENT, () -> x.match(6, 6, 1));
        Check.is(Check.BAD_ARGUMENT, () -> x.match(6, 7, 0));
        Check.is(Check.BAD_ARGUMENT, () -> x.match(6, 7, 5));
        Check.is(Check.BAD_ARGUMENT, () -> x.match(6, 7, -1));
        Check.is(Check.NO_ELEMENT, () -> x.match(6, 7, 1));
        Check.is(Check.NO_ELEMENT, () -> x.match(-5, 999, 4));
        for (int i = 0; i < 8; i++) {
            add(x, i, i < 4 ? 20 : 31);
        }
        Check.is(Check.NO_ELEMENT, () -> x.match(20, 32, 1));
        Check.is(0, () -> x.match(20, 31, 4));
        Check.is(4, () -> x.mate(0));
        Check.is(7, () -> x.mate(3));
    }

    /** Not those that are uncut, scrap, broken, in a set or do not pair; of the others, the first 5. */
    private static void whichAreLookedAt() {
        Hobhouse x = shop();
        add(x, 0, 31);
        x.gear(20, 3000, 0, 20000);
        Check.is(Check.NO_ELEMENT, () -> x.match(20, 31, 1));
        add(x, 2, 20);
        x.grind(2, 99, 1);
        Check.is(Check.NO_ELEMENT, () -> x.match(20, 31, 1));
        add(x, 3, 20);
        add(x, 4, 40);
        x.run(3, 4, 99999, 999999);
        Check.is('/', () -> x.stateOf(3));
        Check.is(Check.NO_ELEMENT, () -> x.match(20, 31, 1));
        x.gear(20, 2500, 0, 20000);
        x.cut(5, 1, 0);
        Check.is(Check.NO_ELEMENT, () -> x.match(20, 31, 1));
        x.gear(20, 3000, 9, 20000);
        x.cut(6, 0, 0);
        Check.is(Check.NO_ELEMENT, () -> x.match(20, 31, 1));
        add(x, 7, 20);
        Check.is(0, () -> x.match(20, 31, 1));
        Check.is(0, () -> x.mate(7));
        Hobhouse y = shop();
        for (int i = 0; i < 6; i++) {
            add(y, i, 20);
            y.chart(i, 0, i < 5 ? 100 + i : 0);
        }
        add(y, 6, 31);
        Check.is(95, () -> y.match(20, 31, 1));
        Check.is(0, () -> y.mate(6));
        Check.is(6, () -> y.separate(0));
        y.chart(4, 0, 50);
        Check.is(47, () -> y.match(31, 20, 1));
        Check.is(6, () -> y.mate(4));
        // With the fifth one in a set, the sixth one is looked at.
        add(y, 7, 31);
        Check.is(0, () -> y.match(20, 31, 1));
        Check.is(5, () -> y.mate(7));
    }

    private static void alikeSums() {
        Hobhouse x = shop();
        add(x, 0, 31);
        add(x, 1, 20);
        add(x, 2, 31);
        add(x, 3, 20);
        add(x, 4, 31);
        x.chart(0, 0, 50);
        Check.is(0, () -> x.match(20, 31, 2));
        Check.is(2, () -> x.mate(1));
        Check.is(4, () -> x.mate(3));
        x.separate(1);
        x.separate(3);
        Check.is(0, () -> x.match(31, 20, 2));
        Check.is(1, () -> x.mate(2));
        Check.is(3, () -> x.mate(4));
    }

    /** Looks at all ways to choose so many pairs, kept as rows of first, second, first, second, .. */
    private static void anySets(Random random) {
        Hobhouse x = shop();
        int many = 1 + random.nextInt(4);
        int count = 4 + random.nextInt(9);
        int[] teeth = new int[count];
        int[] helix = new int[count];
        int one = 6 + random.nextInt(12);
        int other = one + 1 + random.nextInt(20);
        int[][] errors = new int[count][];
        boolean isMixed = random.nextInt(3) == 0;
        for (int i = 0; i < count; i++) {
            teeth[i] = random.nextBoolean() ? one : other;
            helix[i] = isMixed ? random.nextInt(2) * 10 * (teeth[i] == one ? 1 : -1) : 0;
            x.gear(teeth[i], 3000, helix[i], 20000);
            x.cut(i, 0, 0);
            errors[i] = RollingTest.fill(x, i, teeth[i], random, random.nextInt(5), 20);
        }
        List<Integer> firsts = new ArrayList<>();
        List<Integer> seconds = new ArrayList<>();
        for (int i = 0; i < count; i++) {
            List<Integer> group = teeth[i] == one ? firsts : seconds;
            if (group.size() < 5) {
                group.add(i);
            }
        }
        List<int[]> rows = new ArrayList<>();
        collect(firsts, seconds, new int[2 * many], 0, rows, helix);
        int[] best = null;
        long least = 0;
        for (int[] row : rows) {
            long sum = 0;
            for (int k = 0; k < row.length; k += 2) {
                int start = RollingTest.dueQuietest(errors[row[k]], errors[row[k + 1]]);
                sum += RollingTest.duePeak(errors[row[k]], errors[row[k + 1]], start);
            }
            if (best == null || sum < least || sum == least && java.util.Arrays.compare(row, best) < 0) {
                best = row;
                least = sum;
            }
        }
        Check.is(best == null ? (Object) Check.NO_ELEMENT : least, () -> x.match(one, other, many));
        Object[] mates = new Object[count];
        java.util.Arrays.fill(mates, Check.NO_ELEMENT);
        for (int k = 0; best != null && k < best.length; k += 2) {
            mates[best[k]] = best[k + 1];
            mates[best[k + 1]] = best[k];
        }
        for (int i = 0; i < count; i++) {
            int gear = i;
            Check.is(mates[gear], () -> x.mate(gear));
        }
        Check.is(true, () -> x.isSound());
    }

    private static void collect(List<Integer> firsts, List<Integer> seconds, int[] row, int filled,
            List<int[]> rows, int[] helix) {
        if (filled == row.length) {
            rows.add(row.clone());
            return;
        }
        for (int first : firsts) {
            for (int second : seconds) {
                boolean isFree = filled == 0 || first > row[filled - 2];
                for (int k = 1; k < filled; k += 2) {
                    isFree &= row[k] != second;
                }
                if (isFree && helix[first] == -helix[second]) {
                    row[filled] = first;
                    row[filled + 1] = second;
                    collect(firsts, seconds, row, filled + 2, rows, helix);
                }
            }
        }
    }
}

import java.util.Random;

/** Promises 16 to 19. */
final class TrainsTest {
    private static final Hobhouse X = new Hobhouse();

    public static void main(String[] args) {
        Random random = new Random(3);
        for (int i = 0; i < 300; i++) {
            int most = i % 2 == 0 ? 9999 : 40;
            int low = 6 + random.nextInt(195);
            int high = low + random.nextInt(201 - low);
            bestOf(1 + random.nextInt(most), 1 + random.nextInt(most), low, high);
        }
        bestOf(9999, 1, 6, 200);
        bestOf(1, 9999, 6, 200);
        bestOf(1, 1, 6, 6);
        for (int i = 0; i < 100; i++) {
            betweenTwoTrains(random);
        }
        trainEdges();
        planetLetters();
        ringCounts();
        Check.end();
    }

    /** Looks at all pairs, the one that comes later in the document's order first. */
    private static void bestOf(int up, int down, int low, int high) {
        int first = 0;
        int second = 0;
        for (int one = high; one >= low; one--) {
            for (int other = high; other >= low; other--) {
                if (first == 0 || isBetter(up, down, one, other, first, second)) {
                    first = one;
                    second = other;
                }
            }
        }
        Check.is(first, () -> X.bestPair(up, down, low, high));
        Check.is(second, () -> X.bestMate(up, down, low, high));
    }

    /** A ratio in the middle of two trains next to each other, by which both have the same error. */
    private static void betweenTwoTrains(Random random) {
        int low = 6 + random.nextInt(15);
        int high = low + 2 + random.nextInt(8);
        int a = low + random.nextInt(high - low + 1);
        int b = low + random.nextInt(high - low + 1);
        int c = 0;
        int d = 1;
        for (int one = low; one <= high; one++) {
            for (int other = low; other <= high; other++) {
                if (one * b > a * other && (c == 0 || one * d < c * other)) {
                    c = one;
                    d = other;
                }
            }
        }
        if (c > 0) {
            int divisor = Check.divisor(a * d + c * b, 2 * b * d);
            bestOf((a * d + c * b) / divisor, 2 * b * d / divisor, low, high);
        }
    }

    private static boolean isBetter(int up, int down, int one, int other, int first, int second) {
        long error = Math.abs((long) one * down - (long) other * up) * second;
        long least = Math.abs((long) first * down - (long) second * up) * other;
        boolean isPrime = Check.divisor(one, other) == 1;
        boolean wasPrime = Check.divisor(first, second) == 1;
        if (error != least) {
            return error < least;
        }
        if (isPrime != wasPrime) {
            return isPrime;
        }
        return one + other != first + second ? one + other < first + second : one < first;
    }

    private static void trainEdges() {
        Check.is(22, () -> X.bestPair(355, 113, 6, 120));
        Check.is(7, () -> X.bestMate(355, 113, 6, 120));
        Check.is(40, () -> X.bestPair(2, 1, 20, 60));
        Check.is(20, () -> X.bestMate(2, 1, 20, 60));
        int[][] wrong = {{0, 1, 6, 9}, {10000, 1, 6, 9}, {1, 0, 6, 9}, {1, 10000, 6, 9}, {1, 1, 5, 9},
            {1, 1, 6, 201}, {1, 1, 9, 8}, {-1, 1, 6, 9}, {1, 1, 201, 201}};
        for (int[] w : wrong) {
            Check.is(Check.BAD_ARGUMENT, () -> X.bestPair(w[0], w[1], w[2], w[3]));
            Check.is(Check.BAD_ARGUMENT, () -> X.bestMate(w[0], w[1], w[2], w[3]));
        }
    }

    private static void planetLetters() {
        Check.is('g', () -> X.planets(18, 54, 4));
        Check.is('w', () -> X.planets(18, 53, 3));
        Check.is('g', () -> X.planets(19, 53, 3));
        Check.is('w', () -> X.planets(20, 30, 5));
        Check.is('g', () -> X.planets(20, 32, 4));
        Check.is('w', () -> X.planets(20, 31, 4));
        Check.is('a', () -> X.planets(20, 34, 4));
        Check.is('g', () -> X.planets(60, 84, 6));
        // Sun and planet times 500 are 1000 times (planet + 2) here, and a tooth more there.
        Check.is('r', () -> X.planets(11, 25, 6));
        Check.is('g', () -> X.planets(13, 29, 6));
        // 588 for 5: (14 + 16) 588 = 17640, 18000; (15 + 15) 588 = 17640, 17000.
        Check.is('r', () -> X.planets(14, 46, 5));
        Check.is('g', () -> X.planets(15, 45, 5));
        // 707 for 4: (7 + 11) 707 = 12726, 13000; (7 + 10) 707 = 12019, 12000.
        Check.is('a', () -> X.planets(7, 27, 4));
        Check.is('r', () -> X.planets(7, 29, 4));
        Check.is('g', () -> X.planets(8, 32, 4));
        Check.is('r', () -> X.planets(8, 36, 4));
        // 866 for 3: (6 + 24) 866 = 25980, 26000; (6 + 21) 866 = 23382, 23000.
        Check.is('r', () -> X.planets(6, 54, 3));
        Check.is('g', () -> X.planets(6, 48, 3));
        int[][] wrong = {{5, 20, 3}, {201, 300, 3}, {20, 20, 3}, {20, 19, 3}, {20, 601, 3}, {20, 40, 2}, {20, 40, 7}};
        for (int[] w : wrong) {
            Check.is(Check.BAD_ARGUMENT, () -> X.planets(w[0], w[1], w[2]));
        }
        Check.is('g', () -> X.planets(200, 600, 4));
        for (int sun = 6; sun <= 200; sun += 3) {
            for (int ring = sun + 1; ring <= 600; ring++) {
                for (int planets = 3; planets <= 6; planets++) {
                    Check.equal(dueLetter(sun, ring, planets), X.planets(sun, ring, planets));
                }
            }
        }
    }

    private static char dueLetter(int sun, int ring, int planets) {
        int sine = planets == 3 ? 866 : planets == 4 ? 707 : planets == 5 ? 588 : 500;
        int twice = ring - sun;
        if (twice % 2 == 1 || twice < 12) {
            return 'w';
        }
        if ((sun + ring) % planets > 0) {
            return 'a';
        }
        return (2 * sun + twice) * sine <= 1000 * (twice + 4) ? 'r' : 'g';
    }

    private static int dueRings(int sun, int planets, int low, int high) {
        int count = 0;
        for (int ring = sun + 1; ring <= 600; ring++) {
            long ratio = 100L * (sun + ring);
            if (ratio >= (long) low * sun && ratio <= (long) high * sun && X.planets(sun, ring, planets) == 'g') {
                count++;
            }
        }
        return count;
    }

    private static void ringCounts() {
        Check.is(3, () -> X.rings(20, 3, 400, 500));
        Check.is(1, () -> X.rings(20, 3, 420, 420));
        Check.is(0, () -> X.rings(20, 3, 200, 200));
        Check.is(0, () -> X.rings(20, 3, 421, 449));
        Check.is(0, () -> X.rings(20, 3, 500, 400));
        // A ring of 41 has 685.7 times a hundredth as its ratio with a sun of 7, which is no whole number.
        Check.is('a', () -> X.planets(7, 39, 3));
        Check.is('g', () -> X.planets(7, 41, 3));
        Check.is(1, () -> X.rings(7, 3, 685, 686));
        Check.is(0, () -> X.rings(7, 3, 685, 685));
        Check.is(0, () -> X.rings(7, 3, 686, 686));
        Random random = new Random(4);
        for (int i = 0; i < 300; i++) {
            int sun = 6 + random.nextInt(195);
            int planets = 3 + random.nextInt(4);
            int low = 200 + random.nextInt(i % 2 == 0 ? 9800 : 400);
            int high = Math.min(9999, low + random.nextInt(500));
            Check.is(dueRings(sun, planets, low, high), () -> X.rings(sun, planets, low, high));
        }
        Check.is(dueRings(6, 4, 200, 9999), () -> X.rings(6, 4, 200, 9999));
        Check.is(dueRings(200, 3, 200, 9999), () -> X.rings(200, 3, 200, 9999));
        int[][] wrong = {{5, 3, 200, 300}, {201, 3, 200, 300}, {20, 2, 200, 300}, {20, 7, 200, 300},
            {20, 3, 199, 300}, {20, 3, 10000, 10000}, {20, 3, 200, 10000}, {20, 3, 200, 199}};
        for (int[] w : wrong) {
            Check.is(Check.BAD_ARGUMENT, () -> X.rings(w[0], w[1], w[2], w[3]));
        }
    }
}

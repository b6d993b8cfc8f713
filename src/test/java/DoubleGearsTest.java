/** Promises 32 and 33. */
final class DoubleGearsTest {
    private static final Hobhouse X = new Hobhouse();

    public static void main(String[] args) {
        Check.is(true, () -> X.inStep(20, 30, 1, 60));
        Check.is(false, () -> X.inStep(20, 30, 1, 7));
        Check.is(false, () -> X.inStep(20, 30, 1, 120));
        Check.is(true, () -> X.inStep(20, 30, 2, 120));
        Check.is(true, () -> X.inStep(6, 200, 0, 9999));
        Check.is(true, () -> X.inStep(199, 200, Integer.MAX_VALUE, 1));
        Check.is(true, () -> X.inStep(60, 200, 2147483640, 7200));
        Check.is(false, () -> X.inStep(60, 200, 2147483641, 7200));
        Check.is(Integer.MAX_VALUE * 39800L % 9999 == 0, () -> X.inStep(199, 200, Integer.MAX_VALUE, 9999));
        for (int first = 6; first <= 200; first += 7) {
            for (int second = 6; second <= 200; second += 9) {
                inStepByLooking(first, second, second + 1, first + 5);
                inStepByLooking(first, second, 7, 12);
                inStepByLooking(first, second, 3, second);
                inStepByLooking(first, second, first, 2 * second);
            }
        }
        for (int first = 6; first <= 200; first += 5) {
            for (int second = 6; second <= 200; second += 8) {
                clockByLooking(first, second, first - 1);
                clockByLooking(first, second, 0);
                clockByLooking(first, second, first / 2);
            }
        }
        Check.is(10, () -> X.clock(20, 30, 1));
        Check.is(3, () -> X.clock(7, 9, 2));
        Check.is(0, () -> X.clock(7, 9, 0));
        Check.is(0, () -> X.clock(20, 30, 2));
        wrongNumbers();
        Check.end();
    }

    /** Turns by each part of a circle between two teeth, counted in parts of first times second times down. */
    private static void inStepByLooking(int first, int second, int up, int down) {
        long circle = (long) first * second * down;
        long turned = (long) up * first * second % circle;
        boolean meets = false;
        for (int i = 0; i < first; i++) {
            long stand = ((long) i * second * down - turned + circle) % circle;
            meets |= stand % ((long) first * down) == 0;
        }
        Check.is(meets, () -> X.inStep(first, second, up, down));
    }

    private static void clockByLooking(int first, int second, int tooth) {
        int least = first * second;
        for (int j = 0; j < second; j++) {
            int ahead = (j * first - tooth * second + first * second) % (first * second);
            least = Math.min(least, ahead);
        }
        int due = least;
        Check.is(due, () -> X.clock(first, second, tooth));
    }

    private static void wrongNumbers() {
        int[][] wrong = {{5, 6, 0, 1}, {201, 6, 0, 1}, {6, 5, 0, 1}, {6, 201, 0, 1}, {6, 6, -1, 1}, {6, 6, 0, 0},
            {6, 6, 0, 10000}};
        for (int[] w : wrong) {
            Check.is(Check.BAD_ARGUMENT, () -> X.inStep(w[0], w[1], w[2], w[3]));
        }
        int[][] none = {{5, 6, 0}, {201, 6, 0}, {6, 5, 0}, {6, 201, 0}, {6, 6, -1}, {6, 9, 6}};
        for (int[] w : none) {
            Check.is(Check.BAD_ARGUMENT, () -> X.clock(w[0], w[1], w[2]));
        }
        Check.is(0, () -> X.clock(6, 6, 5));
        Check.is(5, () -> X.clock(6, 7, 1));
        Check.is(199, () -> X.clock(200, 6, 199) + 193);
    }
}

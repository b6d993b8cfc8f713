import java.util.Random;

/** Promises 59 and 60. */
final class OldGearsTest {
    private static final Hobhouse X = new Hobhouse();

    public static void main(String[] args) {
        Check.is(2000, () -> X.oldModule(20, 44000, 300));
        Check.is(0, () -> X.oldShift(20, 44000, 300));
        Check.is(2000, () -> X.oldModule(20, 43500, 300));
        Check.is(-5, () -> X.oldShift(20, 43500, 300));
        // The tip is 43800, which is 1 more than worn here, and just as much there.
        Check.is(-6, () -> X.oldShift(20, 43501, 298));
        Check.is(-5, () -> X.oldShift(20, 43501, 299));
        Check.is(-5, () -> X.oldShift(20, 43800, 0));
        Check.is(Check.NO_ELEMENT, () -> X.oldModule(20, 43801, 0));
        Check.is(Check.NO_ELEMENT, () -> X.oldShift(20, 43801, 0));
        Check.is(10000, () -> X.oldModule(200, 2030000, 0));
        Check.is(50, () -> X.oldShift(200, 2030000, 0));
        Check.is(Check.NO_ELEMENT, () -> X.oldModule(200, 2030001, 9999));
        Check.is(500, () -> X.oldModule(6, 3500, 0));
        Check.is(-50, () -> X.oldShift(6, 3500, 0));
        Check.is(Check.NO_ELEMENT, () -> X.oldModule(6, 3499, 0));
        Check.is(500, () -> X.oldModule(6, 3499, 1));
        // A tip of 15750 is that of the module 1750 with a shift of 50, and of 2250 with one of -50.
        Check.is(1750, () -> X.oldModule(6, 15750, 0));
        Check.is(50, () -> X.oldShift(6, 15750, 0));
        int[][] wrong = {{5, 1000, 0}, {201, 1000, 0}, {6, 999, 0}, {6, 10000000, 0}, {6, 1000, -1}, {6, 1000, 10000}};
        for (int[] w : wrong) {
            Check.is(Check.BAD_ARGUMENT, () -> X.oldModule(w[0], w[1], w[2]));
            Check.is(Check.BAD_ARGUMENT, () -> X.oldShift(w[0], w[1], w[2]));
        }
        Check.is(Check.NO_ELEMENT, () -> X.oldModule(6, 1000, 0));
        Check.is(Check.NO_ELEMENT, () -> X.oldModule(200, 9999999, 9999));
        Random random = new Random(11);
        for (int i = 0; i < 3000; i++) {
            int teeth = 6 + random.nextInt(i % 2 == 0 ? 195 : 15);
            int tip = 1000 + random.nextInt(i % 3 == 0 ? 2100000 : 100000);
            anyOld(teeth, tip, random.nextInt(i % 4 == 0 ? 10000 : 300));
        }
        Check.end();
    }

    private static void anyOld(int teeth, int tip, int worn) {
        int module = 0;
        int shift = 0;
        for (int m = 500; m <= 10000; m += 250) {
            for (int s = -50; s <= 50; s++) {
                int t = tipOf(teeth, m, s);
                if (t >= tip && t <= tip + worn && (module == 0 || isBefore(teeth, m, s, module, shift))) {
                    module = m;
                    shift = s;
                }
            }
        }
        boolean isMeant = module > 0;
        Check.is(isMeant ? (Object) module : Check.NO_ELEMENT, () -> X.oldModule(teeth, tip, worn));
        Check.is(isMeant ? (Object) shift : Check.NO_ELEMENT, () -> X.oldShift(teeth, tip, worn));
    }

    private static int tipOf(int teeth, int module, int shift) {
        return (teeth + 2) * module + 2 * shift * module / 100;
    }

    private static boolean isBefore(int teeth, int m, int s, int module, int shift) {
        if (Math.abs(s) != Math.abs(shift)) {
            return Math.abs(s) < Math.abs(shift);
        }
        int more = tipOf(teeth, m, s) - tipOf(teeth, module, shift);
        if (more != 0) {
            return more < 0;
        }
        return m != module ? m < module : s > shift;
    }
}

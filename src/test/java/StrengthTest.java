import java.util.Random;

/** Promises 48 to 51. */
final class StrengthTest {
    public static void main(String[] args) {
        knownStrength();
        Random random = new Random(8);
        for (int i = 0; i < 200; i++) {
            anyGear(random, i);
        }
        pressedTeeth();
        narrowPressing();
        sixthOfTheModule();
        lifeOfOneTurn();
        groundCase();
        runs();
        runEdges();
        refusals();
        Check.end();
    }

    private static void knownStrength() {
        Hobhouse x = new Hobhouse();
        x.gear(36, 2000, 0, 20000);
        Check.is(186, () -> x.bears(0));
        Check.is(-1, () -> x.life(0, 186));
        Check.is(1000000L * 186 / 187 * 186 / 187 * 186 / 187 * 186 / 187 * 186 / 187 * 186 / 187, () -> x.life(0, 187));
        Check.is(887, () -> x.life(0, 600));
        Check.is(0, () -> x.life(0, 999999));
        Check.is(-1, () -> x.life(0, 1));
        Check.is(Check.BAD_ARGUMENT, () -> x.life(0, 0));
        Check.is(Check.BAD_ARGUMENT, () -> x.life(0, 1000000));
        Check.is(Check.NO_INDEX, () -> x.life(1, 0));
        Check.is(Check.NO_INDEX, () -> x.life(-1, 1));
        Check.is(Check.NO_INDEX, () -> x.bears(1));
        Check.is(Check.NO_INDEX, () -> x.bears(-1));
        Check.is(Check.NO_INDEX, () -> x.damage(1));
        Check.is(Check.NO_INDEX, () -> x.damage(-1));
        Check.is(0, () -> x.damage(0));
        // A gear that bears all torques of which the document speaks bears 100000.
        x.gear(200, 10000, 0, 99999);
        Check.is(dueTorque(200, 10000, 99999, 200, 600), () -> x.bears(1));
        x.hob(10000, 1, 200000, 20);
        x.cut(1, 0, 0);
        x.harden(1, 99, true);
        Check.is(100000, () -> x.bears(1));
        Check.is(-1, () -> x.life(1, 100000));
        x.gear(6, 500, 0, 1000);
        Check.is(dueTorque(6, 500, 1000, 200, 600), () -> x.bears(2));
    }

    private static int dueTorque(int teeth, int module, int width, int bending, int pressing) {
        long pitch = (long) teeth * module;
        int torque = 0;
        while (torque < 100000) {
            long load = 2000000L * (torque + 1) / pitch;
            long bent = load * (teeth + 20) / teeth * 1000000 / ((long) width * module);
            long pressed = Check.root(load * 1000000 / pitch * 100000 / width);
            if (bent > bending || pressed > pressing) {
                return torque;
            }
            torque++;
        }
        return torque;
    }

    private static void anyGear(Random random, int round) {
        Hobhouse x = new Hobhouse();
        int teeth = 6 + random.nextInt(195);
        int module = 500 + random.nextInt(round % 2 == 0 ? 9501 : 2500);
        int width = 1000 + random.nextInt(round % 3 == 0 ? 99000 : 9000);
        x.gear(teeth, module, 0, width);
        x.hob(module, 1, 200000, 20);
        Check.is(dueTorque(teeth, module, width, 200, 600), () -> x.bears(0));
        x.cut(0, 0, 0);
        Check.is(dueTorque(teeth, module, width, 200, 600), () -> x.bears(0));
        int hours = 1 + random.nextInt(20);
        x.harden(0, hours, true);
        boolean isDeep = x.caseOf(0) >= module / 6;
        int borne = dueTorque(teeth, module, width, isDeep ? 400 : 300, isDeep ? 1400 : 1000);
        Check.is(borne, () -> x.bears(0));
        int torque = 1 + random.nextInt(borne * 2 + 2);
        long due = 1000000;
        for (int i = 0; i < 6; i++) {
            due = due * borne / torque;
        }
        Check.is(torque <= borne ? -1 : due, () -> x.life(0, torque));
    }

    /** Few teeth with a thin case give way to pressing first. */
    private static void pressedTeeth() {
        for (int teeth = 6; teeth < 11; teeth++) {
            for (int width = 20000; width < 99999; width += 1777) {
                Hobhouse x = new Hobhouse();
                x.gear(teeth, 10000, 0, width);
                x.hob(10000, 1, 200000, 20);
                x.cut(0, 0, 0);
                x.harden(0, 1, true);
                Check.is(dueTorque(teeth, 10000, width, 300, 1000), () -> x.bears(0));
            }
        }
    }

    /** Gears whose pressing by a torque more is the square of 601, or a bit less if any number were cut by one. */
    private static void narrowPressing() {
        int[][] gears = {{6, 2936, 67799, 37}, {6, 5050, 74778, 123}, {6, 5344, 26922, 49}, {6, 6681, 93721, 271}};
        for (int[] gear : gears) {
            Hobhouse x = new Hobhouse();
            x.gear(gear[0], gear[1], 0, gear[2]);
            Check.is(gear[3], () -> x.bears(0));
            Check.equal(gear[3], dueTorque(gear[0], gear[1], gear[2], 200, 600));
            Check.is(-1, () -> x.life(0, gear[3]));
            Check.equal(true, x.life(0, gear[3] + 1) > 0);
        }
    }

    private static void lifeOfOneTurn() {
        Hobhouse x = new Hobhouse();
        x.gear(36, 2000, 0, 20000);
        x.gear(36, 2000, 0, 20000);
        x.hob(2000, 1, 60000, 20);
        x.cut(0, 0, 0);
        x.cut(1, 0, 0);
        int torque = 187;
        while (x.life(0, torque) > 1 && torque < 5000) {
            torque += 10;
        }
        int most = torque;
        Check.is(1, () -> x.life(0, most));
        Check.is(2, () -> x.run(0, 1, most, 5));
        Check.is(5000000, () -> x.damage(0));
        Check.is(5000000, () -> x.damage(1));
    }

    /** Cases of 500 and of 707 at modules about six times as great; the sixth is cut. */
    private static void sixthOfTheModule() {
        int[][] cases = {{3000, 1, 1}, {3005, 1, 1}, {3006, 1, 0}, {4247, 2, 1}, {4248, 2, 0}, {4242, 2, 1}};
        for (int[] c : cases) {
            Hobhouse x = new Hobhouse();
            x.gear(30, c[0], 0, 20000);
            x.hob(c[0], 1, 90000, 20);
            x.cut(0, 0, 0);
            x.harden(0, c[1], true);
            Check.is(dueTorque(30, c[0], 20000, c[2] == 1 ? 400 : 300, c[2] == 1 ? 1400 : 1000), () -> x.bears(0));
        }
    }

    private static void groundCase() {
        Hobhouse x = new Hobhouse();
        x.gear(30, 2000, 0, 20000);
        x.hob(2000, 1, 90000, 20);
        x.cut(0, 0, 500);
        x.harden(0, 1, true);
        Check.is(dueTorque(30, 2000, 20000, 400, 1400), () -> x.bears(0));
        int left = 500;
        while (left > 0) {
            left = x.grind(0, 30, 10);
            int deep = left;
            boolean isSoft = deep == 0;
            int bending = isSoft ? 200 : deep >= 333 ? 400 : 300;
            int pressing = isSoft ? 600 : deep >= 333 ? 1400 : 1000;
            Check.is(dueTorque(30, 2000, 20000, bending, pressing), () -> x.bears(0));
        }
    }

    private static void runs() {
        Hobhouse x = new Hobhouse();
        x.gear(24, 2000, 0, 20000);
        x.gear(36, 2000, 0, 20000);
        x.hob(2000, 1, 60000, 20);
        x.cut(0, 0, 0);
        x.cut(1, 0, 0);
        x.harden(0, 8, false);
        Check.is(209, () -> x.bears(0));
        // 139 at the first one is 208 at the second one.
        Check.is(0, () -> x.run(0, 1, 124, 999999));
        Check.is(0, () -> x.damage(0));
        Check.is(0, () -> x.damage(1));
        long life = x.life(1, 208);
        Check.is(0, () -> x.run(0, 1, 139, 1000));
        Check.is(0, () -> x.damage(0));
        Check.is(1000000L * 666 / life, () -> x.damage(1));
        Check.is(0, () -> x.run(0, 1, 139, 1000));
        Check.is(2 * (1000000L * 666 / life), () -> x.damage(1));
        Check.is(2 * (1000000L * 666 / life), () -> x.allDamage());
        Check.is('c', () -> x.stateOf(1));
        Check.is(1, () -> x.run(0, 1, 400, 9999));
        Check.is(491423, () -> x.damage(0));
        Check.is(2 * (1000000L * 666 / life) + 7515219, () -> x.damage(1));
        Check.is('/', () -> x.stateOf(1));
        Check.is(Check.NOT_ALLOWED, () -> x.run(0, 1, 1, 1));
        Check.is(Check.NOT_ALLOWED, () -> x.run(1, 0, 1, 1));
    }

    private static void runEdges() {
        Hobhouse x = new Hobhouse();
        x.gear(6, 500, 0, 1000);
        x.gear(200, 500, 0, 1000);
        x.gear(200, 500, 0, 1000);
        x.hob(500, 1, 60000, 20);
        x.cut(0, 0, 0);
        x.cut(1, 0, 0);
        x.cut(2, 0, 0);
        // One turn of the first one is no whole turn of the second one, whose life under 3333300 is 0.
        Check.is(0, () -> x.life(1, 999999));
        Check.is(2, () -> x.run(0, 1, 99999, 1));
        Check.is(1000000, () -> x.damage(0));
        Check.is(1000000, () -> x.damage(1));
        Check.is(2000000, () -> x.allDamage());
        Hobhouse y = new Hobhouse();
        y.gear(200, 500, 0, 1000);
        y.gear(6, 500, 0, 1000);
        y.hob(500, 1, 60000, 20);
        y.cut(0, 0, 0);
        y.cut(1, 0, 0);
        // A torque of 1 at the first one is 0 at the second one, which bears less than 1.
        Check.is(0, () -> y.bears(1));
        Check.is(0, () -> y.run(0, 1, 1, 999999));
        Check.is(0, () -> y.damage(1));
        Check.is(1, () -> y.run(1, 0, 1, 1) + (y.damage(1) == 1000000 ? 0 : 9));
    }

    private static void refusals() {
        Hobhouse x = new Hobhouse();
        x.gear(24, 2000, 0, 20000);
        x.gear(36, 2000, 0, 20000);
        x.gear(36, 2000, 0, 20000);
        x.gear(36, 2000, 5, 20000);
        x.gear(36, 2000, 0, 20000);
        x.hob(2000, 1, 60000, 20);
        x.cut(0, 0, 50);
        x.cut(1, 0, 50);
        x.cut(3, 0, 50);
        x.cut(4, 0, 50);
        x.grind(4, 50, 1);
        Check.is(Check.NO_INDEX, () -> x.run(0, 5, 0, 0));
        Check.is(Check.NO_INDEX, () -> x.run(5, 0, 0, 0));
        Check.is(Check.BAD_ARGUMENT, () -> x.run(0, 2, 0, 1));
        Check.is(Check.BAD_ARGUMENT, () -> x.run(0, 0, 100000, 1));
        Check.is(Check.BAD_ARGUMENT, () -> x.run(0, 1, 1, 0));
        Check.is(Check.BAD_ARGUMENT, () -> x.run(0, 1, 1, 1000000));
        Check.is(Check.NOT_ALLOWED, () -> x.run(0, 0, 1, 1));
        Check.is(Check.NOT_ALLOWED, () -> x.run(0, 2, 1, 1));
        Check.is(Check.NOT_ALLOWED, () -> x.run(2, 0, 1, 1));
        Check.is(Check.NOT_ALLOWED, () -> x.run(0, 3, 1, 1));
        Check.is(Check.NOT_ALLOWED, () -> x.run(0, 4, 1, 1));
        Check.is(Check.NOT_ALLOWED, () -> x.run(4, 0, 1, 1));
        Check.is(0, () -> x.run(0, 1, 1, 1));
    }
}

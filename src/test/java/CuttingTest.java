/** Promises 27 to 31. */
final class CuttingTest {
    public static void main(String[] args) {
        shoulders();
        approaches();
        cuts();
        handsAndModules();
        roomToTheShoulder();
        wearOfPlaces();
        regrinds();
        errorOfTheHob();
        Check.end();
    }

    private static void shoulders() {
        Hobhouse x = new Hobhouse();
        x.gear(20, 2000, 0, 20000);
        Check.is(-1, () -> x.shoulder(0, 0));
        Check.is(0, () -> x.shoulder(0, 99999));
        Check.is(Check.BAD_ARGUMENT, () -> x.shoulder(0, -2));
        Check.is(Check.BAD_ARGUMENT, () -> x.shoulder(0, 100000));
        Check.is(99999, () -> x.shoulder(0, -1));
        Check.is(-1, () -> x.shoulder(0, -1));
        Check.is(Check.NO_INDEX, () -> x.shoulder(1, -2));
        Check.is(Check.NO_INDEX, () -> x.shoulder(-1, 0));
    }

    private static void approaches() {
        Hobhouse x = new Hobhouse();
        x.hob(2000, 1, 60000, 3);
        x.hob(501, 1, 20000, 3);
        x.hob(10000, 1, 20000, 3);
        Check.is(15803, () -> x.approach(0));
        // The depth is 4509 / 4 = 1127, and root(1127 18873) = root(21269871) = 4611.
        Check.is(4611, () -> x.approach(1));
        Check.is(0, () -> x.approach(2));
        Check.is(Check.NO_INDEX, () -> x.approach(3));
        Check.is(Check.NO_INDEX, () -> x.approach(-1));
        x.regrind(0);
        Check.is(Check.root(4500L * 55400), () -> x.approach(0));
    }

    private static void cuts() {
        Hobhouse x = new Hobhouse();
        x.gear(20, 2000, 0, 20000);
        x.gear(20, 2000, 0, 20000);
        x.hob(2000, 1, 60000, 3);
        Check.is(Check.NO_INDEX, () -> x.cut(2, 0, -1));
        Check.is(Check.NO_INDEX, () -> x.cut(-1, 0, 0));
        Check.is(Check.NO_INDEX, () -> x.cut(0, 1, -1));
        Check.is(Check.NO_INDEX, () -> x.cut(0, -1, 0));
        Check.is(Check.BAD_ARGUMENT, () -> x.cut(0, 0, -1));
        Check.is(Check.BAD_ARGUMENT, () -> x.cut(0, 0, 501));
        Check.is('b', () -> x.stateOf(0));
        Check.is(0, () -> x.wear(0, 0));
        Check.is(0, () -> x.cut(0, 0, 500));
        Check.is('c', () -> x.stateOf(0));
        Check.is(Check.NOT_ALLOWED, () -> x.cut(0, 0, 0));
        Check.is(Check.BAD_ARGUMENT, () -> x.cut(0, 0, 501));
        Check.is(499, () -> x.grind(0, 1, 1));
        Check.is(1, () -> x.cut(1, 0, 0));
        Check.is(Check.NOT_ALLOWED, () -> x.grind(1, 1, 1));
    }

    private static void handsAndModules() {
        Hobhouse x = new Hobhouse();
        x.gear(20, 2000, -1, 20000);
        x.gear(20, 2000, 0, 20000);
        x.gear(20, 2000, 1, 20000);
        x.hob(2000, 2, 60000, 3);
        x.hob(2001, 1, 60000, 3);
        x.hob(1999, 1, 60000, 3);
        x.hob(2000, 1, 60000, 3);
        Check.is(Check.NOT_ALLOWED, () -> x.cut(0, 0, 0));
        Check.is(Check.NOT_ALLOWED, () -> x.cut(0, 1, 0));
        Check.is(Check.NOT_ALLOWED, () -> x.cut(0, 2, 0));
        Check.is(0, () -> x.wear(0, 0));
        Check.is(0, () -> x.cut(0, 3, 0));
        Check.is(0, () -> x.cut(1, 0, 0));
        Check.is(1, () -> x.cut(2, 0, 0));
        Check.is(10, () -> x.wear(0, 0));
        Check.is(10, () -> x.wear(0, 1));
    }

    private static void roomToTheShoulder() {
        Hobhouse x = new Hobhouse();
        x.gear(20, 2000, 0, 20000);
        x.gear(20, 10000, 0, 20000);
        x.hob(2000, 1, 60000, 3);
        x.hob(10000, 1, 20000, 3);
        x.shoulder(0, 15802);
        Check.is(Check.NOT_ALLOWED, () -> x.cut(0, 0, 0));
        x.shoulder(0, 15803);
        Check.is(0, () -> x.cut(0, 0, 0));
        x.shoulder(1, 0);
        Check.is(0, () -> x.cut(1, 1, 0));
        Check.is(15803, () -> x.shoulder(0, 5));
    }

    private static void wearOfPlaces() {
        Hobhouse x = new Hobhouse();
        for (int i = 0; i < 6; i++) {
            x.gear(i == 0 ? 199 : i == 3 ? 200 : i == 4 ? 7 : 19, 2000, 0, 20000);
        }
        x.hob(2000, 1, 60000, 2);
        x.hob(2000, 3, 60000, 1);
        Check.is(0, () -> x.cut(0, 0, 0));
        Check.is(1, () -> x.cut(3, 0, 0));
        Check.is(199, () -> x.wear(0, 0));
        Check.is(200, () -> x.wear(0, 1));
        Check.is(0, () -> x.cut(1, 0, 0));
        Check.is(218, () -> x.wear(0, 0));
        // The place next in turn has 200, and no other one is taken.
        Check.is(Check.NOT_ALLOWED, () -> x.cut(2, 0, 0));
        Check.is(1, () -> x.regrind(0));
        Check.is(0, () -> x.wear(0, 0));
        Check.is(0, () -> x.wear(0, 1));
        Check.is(1, () -> x.cut(2, 0, 0));
        Check.is(0, () -> x.wear(0, 0));
        Check.is(19, () -> x.wear(0, 1));
        Check.is(0, () -> x.cut(4, 1, 0));
        Check.is(2, () -> x.wear(1, 0));
        Check.is(0, () -> x.cut(5, 1, 0));
        Check.is(8, () -> x.wear(1, 0));
        Check.is(Check.NO_INDEX, () -> x.wear(1, 1));
        Check.is(Check.NO_INDEX, () -> x.wear(0, 2));
        Check.is(Check.NO_INDEX, () -> x.wear(0, -1));
        Check.is(Check.NO_INDEX, () -> x.wear(2, 0));
        Check.is(Check.NO_INDEX, () -> x.wear(-1, 0));
    }

    private static void regrinds() {
        Hobhouse x = new Hobhouse();
        x.hob(2000, 1, 60000, 2);
        x.hob(2000, 1, 20199, 2);
        x.hob(2000, 1, 20099, 2);
        for (int i = 1; i <= 8; i++) {
            int due = i;
            Check.is(due, () -> x.regrind(0));
        }
        Check.is(Check.NOT_ALLOWED, () -> x.regrind(0));
        Check.is(Check.root(4500L * (59200 - 4500)), () -> x.approach(0));
        Check.is(1, () -> x.regrind(1));
        Check.is(Check.NOT_ALLOWED, () -> x.regrind(1));
        Check.is(Check.NOT_ALLOWED, () -> x.regrind(2));
        x.hob(2000, 1, 20100, 2);
        Check.is(1, () -> x.regrind(3));
        Check.is(Check.NO_INDEX, () -> x.regrind(4));
        Check.is(Check.NO_INDEX, () -> x.regrind(-1));
    }

    /** The error is the one that the hob had when it cut. */
    private static void errorOfTheHob() {
        Hobhouse x = new Hobhouse();
        x.gear(20, 2000, 0, 20000);
        x.gear(20, 2000, 0, 20000);
        x.hob(2000, 1, 60000, 3);
        x.regrind(0);
        x.cut(0, 0, 0);
        Check.is(0, () -> x.grade(0));
        x.regrind(0);
        Check.is(0, () -> x.grade(0));
        x.cut(1, 0, 0);
        Check.is(2, () -> x.grade(1));
        Check.is(0, () -> x.grade(0));
    }
}

import java.util.Random;

/** Promises 55 to 58. */
final class ShopTest {
    public static void main(String[] args) {
        machines();
        tools();
        routes();
        knownTimes();
        alikeMachines();
        Random random = new Random(10);
        for (int i = 0; i < 100; i++) {
            anyShop(random);
        }
        Check.end();
    }

    private static void machines() {
        Hobhouse x = new Hobhouse();
        Check.is(Check.BAD_ARGUMENT, () -> x.machine('x', 1));
        Check.is(Check.BAD_ARGUMENT, () -> x.machine('H', 1));
        Check.is(Check.BAD_ARGUMENT, () -> x.machine('h', 0));
        Check.is(Check.BAD_ARGUMENT, () -> x.machine('h', 100));
        String kinds = "hfgchf";
        for (int i = 0; i < 6; i++) {
            int number = i;
            Check.is(number, () -> x.machine(kinds.charAt(number), number == 0 ? 99 : 1));
        }
        Check.is(Check.BAD_STATE, () -> x.machine('h', 1));
        Check.is(Check.BAD_ARGUMENT, () -> x.machine('h', 100));
        Check.is(Check.BAD_ARGUMENT, () -> x.machine('i', 1));
    }

    private static void tools() {
        Hobhouse x = new Hobhouse();
        x.machine('h', 5);
        Check.is(0, () -> x.toolsAt(0, 9999));
        Check.is(9999, () -> x.toolsAt(0, 0));
        Check.is(0, () -> x.toolsAt(0, 3));
        Check.is(Check.BAD_ARGUMENT, () -> x.toolsAt(0, -1));
        Check.is(Check.BAD_ARGUMENT, () -> x.toolsAt(0, 10000));
        Check.is(Check.NO_INDEX, () -> x.toolsAt(1, -1));
        Check.is(Check.NO_INDEX, () -> x.toolsAt(-1, 0));
        Check.is(3, () -> x.toolsAt(0, 4));
    }

    private static void routes() {
        Hobhouse x = new Hobhouse();
        x.gear(20, 2000, 0, 20000);
        Check.is(Check.BAD_ARGUMENT, () -> x.route(0, 'x'));
        Check.is(Check.NO_INDEX, () -> x.route(1, 'x'));
        Check.is(Check.NO_INDEX, () -> x.route(-1, 'h'));
        String kinds = "hfgchfgc";
        for (int i = 1; i <= 8; i++) {
            int due = i;
            Check.is(due, () -> x.route(0, kinds.charAt(due - 1)));
        }
        Check.is(Check.BAD_STATE, () -> x.route(0, 'h'));
        Check.is(Check.BAD_ARGUMENT, () -> x.route(0, 'x'));
        x.machine('h', 1);
        x.machine('f', 10);
        x.machine('g', 20);
        Check.is(Check.NO_ELEMENT, () -> x.doneAt(0));
        x.machine('c', 30);
        Check.is(122, () -> x.doneAt(0));
    }

    private static void knownTimes() {
        Hobhouse x = new Hobhouse();
        Check.is(Check.NO_INDEX, () -> x.doneAt(0));
        for (int i = 0; i < 4; i++) {
            x.gear(20, 3000, 0, 20000);
        }
        Check.is(0, () -> x.doneAt(0));
        x.machine('h', 5);
        x.machine('h', 7);
        x.machine('f', 20);
        x.toolsAt(0, 9);
        x.route(0, 'h');
        x.route(0, 'f');
        x.route(1, 'h');
        x.route(2, 'h');
        x.route(2, 'f');
        Check.is(27, () -> x.doneAt(0));
        Check.is(14, () -> x.doneAt(1));
        Check.is(47, () -> x.doneAt(2));
        Check.is(0, () -> x.doneAt(3));
        Check.is(47, () -> x.doneAt(2));
        x.route(3, 'g');
        for (int i = 0; i < 4; i++) {
            int gear = i;
            Check.is(Check.NO_ELEMENT, () -> x.doneAt(gear));
        }
        Check.is(Check.NO_INDEX, () -> x.doneAt(4));
        Check.is(Check.NO_INDEX, () -> x.doneAt(-1));
        x.machine('g', 1);
        Check.is(1, () -> x.doneAt(3));
        x.toolsAt(2, 30);
        Check.is(50, () -> x.doneAt(0));
        Check.is(70, () -> x.doneAt(2));
    }

    /** Both machines end at 14; with the lowest one taken, the other one is left for a gear that comes at 8. */
    private static void alikeMachines() {
        Hobhouse x = new Hobhouse();
        x.gear(20, 3000, 0, 20000);
        x.gear(20, 3000, 0, 20000);
        x.machine('h', 5);
        x.machine('h', 7);
        x.machine('f', 8);
        x.toolsAt(0, 9);
        x.toolsAt(1, 7);
        x.route(0, 'h');
        x.route(1, 'f');
        x.route(1, 'h');
        Check.is(14, () -> x.doneAt(0));
        Check.is(15, () -> x.doneAt(1));
    }

    private static void anyShop(Random random) {
        Hobhouse x = new Hobhouse();
        String kinds = "hfgc";
        int machines = 4 + random.nextInt(3);
        int[] kind = new int[machines];
        int[] time = new int[machines];
        int[] free = new int[machines];
        for (int i = 0; i < machines; i++) {
            kind[i] = i < 4 ? i : random.nextInt(4);
            time[i] = 1 + random.nextInt(12);
            free[i] = random.nextBoolean() ? 0 : random.nextInt(40);
            x.machine(kinds.charAt(kind[i]), time[i]);
            x.toolsAt(i, free[i]);
        }
        int gears = 1 + random.nextInt(8);
        int[] due = new int[gears];
        for (int gear = 0; gear < gears; gear++) {
            x.gear(20, 2000, 0, 20000);
            int steps = random.nextInt(9);
            for (int step = 0; step < steps; step++) {
                int wanted = random.nextInt(4);
                x.route(gear, kinds.charAt(wanted));
                int best = -1;
                for (int m = machines - 1; m >= 0; m--) {
                    if (kind[m] == wanted && (best < 0
                            || Math.max(free[m], due[gear]) + time[m] <= Math.max(free[best], due[gear]) + time[best])) {
                        best = m;
                    }
                }
                due[gear] = Math.max(free[best], due[gear]) + time[best];
                free[best] = due[gear];
            }
        }
        for (int i = 0; i < gears; i++) {
            int gear = i;
            Check.is(due[gear], () -> x.doneAt(gear));
        }
    }
}

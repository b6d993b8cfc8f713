import java.lang.reflect.InvocationTargetException;
import java.lang.reflect.Method;
import java.util.ArrayList;
import java.util.List;

/**
 * A shop after some calls that go, built anew as often as it is wanted. What a shop is can be seen by many calls, some
 * of which change it; so a shop that refused a call is compared with another one that was never asked for it.
 */
final class Scenario {
    static final int MOST_CALLS = 512;

    private final List<Ask> steps = new ArrayList<>();
    private String untouched;

    interface Ask {
        Object of(Hobhouse shop);
    }

    Scenario then(Ask step) {
        steps.add(step);
        untouched = null;
        return this;
    }

    Scenario copy() {
        Scenario copied = new Scenario();
        copied.steps.addAll(steps);
        return copied;
    }

    Hobhouse shop() {
        Hobhouse shop = new Hobhouse();
        for (Ask step : steps) {
            step.of(shop);
        }
        return shop;
    }

    /** The call throws this, and the shop then is as it would be without the call. */
    void refuses(String due, Ask call) {
        Hobhouse shop = shop();
        Check.is(due, () -> call.of(shop));
        Check.equal(seenUntouched(), see(shop));
    }

    /** The call has this answer, and changes nothing. */
    void tells(Object due, Ask call) {
        Hobhouse shop = shop();
        Check.is(due, () -> call.of(shop));
        Check.equal(seenUntouched(), see(shop));
    }

    /** The call has an answer, and changes nothing. */
    void tells(Ask call) {
        tells(Check.answer(() -> call.of(shop())), call);
        Check.equal(false, Check.answer(() -> call.of(shop())).toString().endsWith("Exception"));
    }

    /** Calls by name: the numbers from low to high go at this place of the arguments, and none else. */
    void takes(String name, int place, int low, int high, Object... arguments) {
        for (int right : new int[] {low, high}) {
            boolean isTaken = !answers(Check.BAD_ARGUMENT, name, put(arguments, place, right));
            Check.equal(name + " takes " + right, name + (isTaken ? " takes " : " refuses ") + right);
        }
        for (long wrong : new long[] {low - 1L, high + 1L, Integer.MIN_VALUE, Integer.MAX_VALUE}) {
            boolean isNumber = wrong >= Integer.MIN_VALUE && wrong <= Integer.MAX_VALUE;
            if (isNumber && (wrong < low || wrong > high)) {
                refuses(Check.BAD_ARGUMENT, shop -> call(shop, name, put(arguments, place, (int) wrong)));
            }
        }
    }

    /** Calls by name: there are so many gears, hobs, machines or places, whose numbers stand at this place. */
    void counts(String name, int place, int count, Object... arguments) {
        for (int right : new int[] {0, count - 1}) {
            boolean isThere = !answers(Check.NO_INDEX, name, put(arguments, place, right));
            Check.equal(name + " finds " + right, name + (isThere ? " finds " : " misses ") + right);
        }
        for (int wrong : new int[] {-1, count, Integer.MIN_VALUE, Integer.MAX_VALUE}) {
            refuses(Check.NO_INDEX, shop -> call(shop, name, put(arguments, place, wrong)));
        }
    }

    private boolean answers(String due, String name, Object[] arguments) {
        return due.equals(Check.answer(() -> call(shop(), name, arguments)));
    }

    private static Object[] put(Object[] arguments, int place, int number) {
        Object[] changed = arguments.clone();
        changed[place] = number;
        return changed;
    }

    static Object call(Hobhouse shop, String name, Object... arguments) {
        for (Method method : Hobhouse.class.getMethods()) {
            if (method.getName().equals(name) && method.getDeclaringClass() == Hobhouse.class) {
                try {
                    return method.invoke(shop, arguments);
                } catch (InvocationTargetException failed) {
                    throw (RuntimeException) failed.getCause();
                } catch (IllegalAccessException hidden) {
                    throw new AssertionError(hidden);
                }
            }
        }
        throw new AssertionError("there is no " + name);
    }

    private String seenUntouched() {
        if (untouched == null) {
            untouched = see(shop());
        }
        return untouched;
    }

    private String see(Hobhouse shop) {
        return see(shop, steps.size() + 1);
    }

    /** All that can be seen of a shop, which may not be used any more then, after so many calls. */
    static String see(Hobhouse shop, int calls) {
        Sight sight = new Sight(shop);
        String seen = sight.all();
        Check.equal(true, calls + sight.calls() <= MOST_CALLS);
        return seen;
    }

    /** Asks a shop for all that can be seen of it, and spoils it thereby. */
    private static final class Sight {
        private final Hobhouse x;
        private final StringBuilder seen = new StringBuilder();
        private int calls;

        Sight(Hobhouse x) {
            this.x = x;
        }

        int calls() {
            return calls;
        }

        private String ask(Check.Call call) {
            calls++;
            String answer = Check.answer(call).toString();
            seen.append(answer).append(' ');
            return answer;
        }

        String all() {
            sums();
            boolean isThere = true;
            for (int i = 0; i < 20 && isThere; i++) {
                int gear = i;
                isThere = !ask(() -> x.tip(gear)).equals(Check.NO_INDEX);
                if (isThere) {
                    gear(gear);
                }
            }
            isThere = true;
            for (int i = 0; i < 8 && isThere; i++) {
                int hob = i;
                isThere = !ask(() -> x.approach(hob)).equals(Check.NO_INDEX);
                if (isThere) {
                    places(hob);
                }
            }
            spoil();
            return seen.toString();
        }

        private void sums() {
            ask(() -> x.allDamage());
            ask(() -> x.cutShare());
            ask(() -> x.meanGrade());
            ask(() -> x.isSound());
            ask(() -> x.change(17, 12, 0));
            ask(() -> x.change(17, 12, 3));
        }

        private void gear(int gear) {
            ask(() -> x.stateOf(gear));
            ask(() -> x.total(gear));
            ask(() -> x.grade(gear));
            ask(() -> x.caseOf(gear));
            ask(() -> x.isClean(gear));
            ask(() -> x.damage(gear));
            ask(() -> x.mate(gear));
            ask(() -> x.doneAt(gear));
            ask(() -> x.cause(gear));
            ask(() -> x.chart(gear, 1, 7));
            ask(() -> x.shoulder(gear, -1));
        }

        private void places(int hob) {
            ask(() -> x.wear(hob, 0));
            ask(() -> x.wear(hob, 1));
            ask(() -> x.wear(hob, 19));
        }

        private void spoil() {
            ask(() -> x.setMachine(1, 3));
            for (int i = 0; i < 6; i++) {
                int machine = i;
                ask(() -> x.toolsAt(machine, 5));
            }
            for (int i = 0; i < 20; i++) {
                int gear = i;
                ask(() -> x.grind(gear, 1, 1));
                ask(() -> x.route(gear, 'f'));
            }
            for (int i = 0; i < 8; i++) {
                int hob = i;
                ask(() -> x.cut(0, hob, 5));
                ask(() -> x.cut(1, hob, 5));
                ask(() -> x.regrind(hob));
            }
            ask(() -> x.wheel(15));
            ask(() -> x.hob(2000, 1, 60000, 2));
            ask(() -> x.machine('c', 9));
            ask(() -> x.gear(6, 500, 0, 1000));
        }
    }
}

import java.lang.reflect.InvocationTargetException;
import java.lang.reflect.Method;
import java.util.ArrayList;
import java.util.Arrays;
import java.util.Comparator;
import java.util.List;
import java.util.Random;

/**
 * Rows of calls with any numbers: each throws only what its face names, one that throws changes nothing, and the same
 * calls give the same answers.
 */
final class WildCallsTest {
    private static final int[] NUMBERS = {-2147483648, -1, 0, 1, 2, 3, 5, 6, 12, 19, 20, 24, 30, 50, 99, 100, 200,
        201, 500, 501, 1000, 2000, 2001, 9999, 10000, 20000, 60000, 99999, 100000, 999999, 2147483647};
    private static final Method[] CALLS = calls();
    private static final int MANY = 150;

    public static void main(String[] args) throws Exception {
        for (int seed = 0; seed < 300; seed++) {
            row(new Random(seed), Scenario.MOST_CALLS - 1);
            Hobhouse[] shops = row(new Random(-1 - seed), MANY);
            Check.equal(Scenario.see(shops[0], MANY), Scenario.see(shops[1], MANY));
        }
        Check.end();
    }

    /** Two shops after a row of calls; the second one is not asked for those that throw. */
    private static Hobhouse[] row(Random random, int calls) throws Exception {
        Hobhouse[] shops = {new Hobhouse(), new Hobhouse()};
        for (int i = 0; i < calls; i++) {
            Method method = pick(random);
            Object[] arguments = argumentsOf(method, random);
            Object answer = call(shops[0], method, arguments);
            if (!answer.toString().endsWith("Exception")) {
                Check.equal(answer, call(shops[1], method, arguments));
            }
        }
        Check.equal(true, shops[0].isSound());
        return shops;
    }

    private static Method[] calls() {
        List<Method> found = new ArrayList<>();
        for (Method method : Hobhouse.class.getDeclaredMethods()) {
            if (java.lang.reflect.Modifier.isPublic(method.getModifiers())) {
                found.add(method);
            }
        }
        found.sort(Comparator.comparing(Method::getName));
        return found.toArray(new Method[0]);
    }

    private static Method pick(Random random) {
        int turn = random.nextInt(10);
        String wanted = turn == 0 ? "gear" : turn == 1 ? "cut" : turn == 2 ? "chart" : null;
        for (Method method : CALLS) {
            if (method.getName().equals(wanted)) {
                return method;
            }
        }
        return CALLS[random.nextInt(CALLS.length)];
    }

    private static Object[] argumentsOf(Method method, Random random) {
        Class<?>[] types = method.getParameterTypes();
        Object[] arguments = new Object[types.length];
        boolean isPlain = random.nextInt(4) > 0;
        for (int i = 0; i < types.length; i++) {
            if (types[i] == boolean.class) {
                arguments[i] = random.nextBoolean();
            } else if (types[i] == char.class) {
                arguments[i] = "hfgcx".charAt(random.nextInt(5));
            } else {
                arguments[i] = isPlain ? plainNumber(method.getName(), i, random) : NUMBERS[random.nextInt(NUMBERS.length)];
            }
        }
        return arguments;
    }

    /** Numbers with which most calls go. */
    private static int plainNumber(String name, int place, Random random) {
        switch (name) {
            case "gear":
                int[] gear = {6 + random.nextInt(40), 2000, random.nextInt(3) * 20 - 20, 20000};
                return gear[place];
            case "hob":
                int[] hob = {2000, 1 + random.nextInt(3), 20000 + random.nextInt(40000), 1 + random.nextInt(20)};
                return hob[place];
            case "cut":
                return place == 0 ? random.nextInt(20) : random.nextInt(8);
            case "match":
                return place == 2 ? 1 : 6 + random.nextInt(40);
            case "wheel":
                return 15 + random.nextInt(100);
            default:
                return random.nextInt(place < 2 ? 20 : 60);
        }
    }

    private static Object call(Hobhouse shop, Method method, Object[] arguments) throws Exception {
        try {
            return method.invoke(shop, arguments);
        } catch (InvocationTargetException failed) {
            Class<?> thrown = failed.getCause().getClass();
            boolean isNamed = Arrays.asList(method.getExceptionTypes()).contains(thrown);
            StackTraceElement[] trace = failed.getCause().getStackTrace();
            boolean isOwn = trace.length > 0 && trace[0].getClassName().startsWith("Hobhouse");
            Check.equal(method.getName() + " throws what it may", method.getName()
                    + (isNamed && isOwn ? " throws what it may" : " throws " + failed.getCause()));
            return thrown.getSimpleName();
        }
    }
}

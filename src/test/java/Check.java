import java.math.BigInteger;

/** Compares answers with those that are due, and counts the wrong ones. */
final class Check {
    static final String BAD_ARGUMENT = "IllegalArgumentException";
    static final String BAD_STATE = "IllegalStateException";
    static final String NO_INDEX = "IndexOutOfBoundsException";
    static final String NOT_ALLOWED = "UnsupportedOperationException";
    static final String NO_ELEMENT = "NoSuchElementException";
    static final String NO_QUOTIENT = "ArithmeticException";

    private static int wrong = 0;

    interface Call {
        Object make();
    }

    private Check() {
    }

    /** The answer of a call, or the name of the exception that it throws. */
    static Object answer(Call call) {
        try {
            return plain(call.make());
        } catch (RuntimeException thrown) {
            return thrown.getClass().getSimpleName();
        }
    }

    static void is(Object due, Call call) {
        same(due, answer(call));
    }

    static void equal(Object due, Object got) {
        same(due, plain(got));
    }

    private static void same(Object due, Object got) {
        if (!plain(due).equals(got)) {
            wrong++;
            if (wrong <= 20) {
                System.out.println(lineOfTest() + ": answered " + got + ", due is " + due);
            }
        }
    }

    private static String lineOfTest() {
        for (StackTraceElement frame : new Throwable().getStackTrace()) {
            if (frame.getClassName().endsWith("Test")) {
                return frame.toString();
            }
        }
        return "some test";
    }

    private static Object plain(Object value) {
        return value instanceof Integer number ? (Object) number.longValue() : value;
    }

    static long root(long n) {
        return n <= 0 ? 0 : BigInteger.valueOf(n).sqrt().longValueExact();
    }

    static int divisor(int a, int b) {
        return BigInteger.valueOf(a).gcd(BigInteger.valueOf(b)).intValueExact();
    }

    static void end() {
        if (wrong > 0) {
            System.out.println(wrong + " answers are not as due");
            System.exit(1);
        }
    }
}

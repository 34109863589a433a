/** Counts what a test found wrong, and tells it. */
final class Check {
    /** A call that may throw. */
    interface Call {
        Object answer();
    }

    private static int looked;
    private static int wrong;
    private static String part = "";

    private Check() {
    }

    static void part(String name) {
        part = name;
    }

    static void same(String what, Object got, Object due) {
        looked++;
        boolean isSame = due == null ? got == null : due.equals(got);
        if (!isSame) {
            wrong++;
            System.out.println(part + ": " + what + " answered " + got + ", due is " + due);
        }
    }

    static void eq(long got, long due) {
        same("call", got, due);
    }

    static void eq(String got, String due) {
        same("call", got, due);
    }

    static void yes(boolean got) {
        same("call", got, true);
    }

    /** What a call answers, or the name of what it throws. */
    static Object outcome(Call call) {
        try {
            return call.answer();
        } catch (RuntimeException thrown) {
            return thrown.getClass().getSimpleName();
        }
    }

    /** The call must throw an IndexOutOfBoundsException. */
    static void noSuch(Call call) {
        same("call", outcome(call), "IndexOutOfBoundsException");
    }

    /** The call must throw an IllegalArgumentException. */
    static void notLet(Call call) {
        same("call", outcome(call), "IllegalArgumentException");
    }

    /** The call must throw an IllegalStateException. */
    static void notNow(Call call) {
        same("call", outcome(call), "IllegalStateException");
    }

    /** The call must answer so, a refusal or an exception, and nothing may be changed then. */
    static void stays(Rentroll roll, Call call, Object due) {
        String before = Picture.of(roll);
        same("call", outcome(call), due);
        same("what is told behind it", Picture.of(roll), before);
    }

    /** The call must answer -9 and change nothing. */
    static void refused(Rentroll roll, Call call) {
        stays(roll, call, -9);
    }

    static boolean isRight() {
        return wrong == 0;
    }

    static void end(String test) {
        System.out.println(test + ": " + looked + " answers looked at, " + wrong + " wrong");
        if (wrong > 0 || looked == 0) {
            System.exit(1);
        }
    }
}

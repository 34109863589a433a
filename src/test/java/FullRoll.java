import java.lang.reflect.InvocationTargetException;
import java.lang.reflect.Method;
import java.lang.reflect.Modifier;
import java.util.ArrayList;
import java.util.Arrays;
import java.util.List;
import java.util.Map;
import java.util.TreeMap;

/** A roll on which some of everything has been told, calls that can be made on it, and all that can be asked. */
final class FullRoll {
    /** A call of the face: its name, then its arguments. */
    static final class Call {
        final String name;
        final Object[] args;

        Call(String name, Object... args) {
            this.name = name;
            this.args = args;
        }

        /** "pay 0 2 340 -1" */
        static Call of(String text) {
            String[] words = text.trim().split(" ");
            Object[] args = new Object[words.length - 1];
            for (int at = 0; at < args.length; at++) {
                args[at] = Integer.valueOf(words[at + 1]);
            }
            return new Call(words[0], args);
        }

        /** What it asks for: "owed(.., 2)"; of the others just the name. */
        String kind() {
            boolean isOfKinds = name.equals("owed") || name.equals("due") || name.equals("depositOf")
                || name.equals("owner") || name.equals("ofLease") || name.equals("count");
            return isOfKinds ? name + args[args.length - 1] : name;
        }

        @Override
        public String toString() {
            return name + Arrays.toString(args);
        }
    }

    private static final Map<String, Method> FACE = methods(Rentroll.class);
    private static final Map<String, Method> NAIVE = methods(NaiveRoll.class);
    private static final int[] ASKED = {0, 9, 40, 62, 100, 182, 240, 400, 600, 601, 640, 651, 700, 905, 1200, 1824};

    /** FLATS 0 to 2 of HOUSE 0, 3 and 4 of HOUSE 1; LEASES 0 and 2 of FLAT 0, 1 of FLAT 1, 3 of FLAT 3. */
    private static final String[] TOLD = {
        "flat 0 60", "flat 0 40", "flat 0 100", "flat 1 50", "flat 1 30",
        "lease 0 0 600 2 300 0", "lease 1 31 -1 3 250 1", "lease 0 650 1700 1 320 2", "lease 3 10 900 4 500 0",
        "advance 0 40", "advance 1 30", "advance 3 20", "heads 0 100 4", "step 0 200 330", "freeMonth 0 5",
        "index 0 100", "index 1 101", "index 10 104", "index 13 120", "index 25 130",
        "clause 0 3 20", "clause 1 3 20", "adjust 0 13", "compare 0 6", "compare 0 7", "compare 0 9",
        "defect 0 40 70 25", "pay 0 2 340 -1", "pay 0 33 500 1", "pay 0 100 2500 -1", "pay 1 40 2800 -1",
        "pay 1 60 90 3", "pay 2 660 90000 -1", "rate 0 500", "rate 500 800", "remind 3 60", "terminate 3 80",
        "read 0 0 100", "read 0 364 900", "read 1 100 10", "read 1 300 400",
        "bill 0 0 0 364 1001 95", "bill 0 1 50 364 900 100", "bill 0 2 0 364 800 90", "bill 0 3 0 364 777 80",
        "bill 0 4 0 300 901 100", "bill 1 0 0 364 321 100", "settle 0 0 380",
        "deposit 0 3 9000", "use 0 450 300", "deposit 1 40 7000",
        "work 0 601 620 50", "work 0 610 649 60", "work 3 200 300 70", "work 2 5 9 5", "shift 2 0 10 240"};

    private FullRoll() {
    }

    private static Map<String, Method> methods(Class<?> of) {
        Map<String, Method> map = new TreeMap<>();
        for (Method method : of.getDeclaredMethods()) {
            if (Modifier.isPublic(method.getModifiers())) {
                map.put(method.getName(), method);
            }
        }
        return map;
    }

    static int toldCalls() {
        return TOLD.length;
    }

    static Rentroll made() {
        Rentroll roll = new Rentroll();
        for (String text : TOLD) {
            make(roll, Call.of(text));
        }
        return roll;
    }

    static NaiveRoll madeNaive() {
        NaiveRoll roll = new NaiveRoll();
        for (String text : TOLD) {
            make(roll, Call.of(text));
        }
        return roll;
    }

    /** What the call answers, or the name of what it throws. */
    static Object make(Rentroll roll, Call call) {
        return outcome(FACE.get(call.name), roll, call.args);
    }

    static Object make(NaiveRoll roll, Call call) {
        return outcome(NAIVE.get(call.name), roll, call.args);
    }

    private static Object outcome(Method method, Object roll, Object[] args) {
        try {
            return method.invoke(roll, args);
        } catch (InvocationTargetException thrown) {
            return thrown.getCause().getClass().getSimpleName();
        } catch (IllegalAccessException thrown) {
            throw new IllegalStateException(thrown);
        }
    }

    /** All that is asked, also of one FLAT, LEASE and BILL more than there are. */
    static List<Call> questions() {
        List<Call> all = new ArrayList<>();
        for (int flat = 0; flat <= 5; flat++) {
            askFlat(all, flat);
        }
        for (int lease = 0; lease <= 4; lease++) {
            askLease(all, lease);
            askDays(all, lease);
        }
        for (int bill = 0; bill <= 6; bill++) {
            for (int lease = -1; lease <= 4; lease++) {
                all.add(new Call("share", bill, lease));
                all.add(new Call("exactShare", bill, lease));
            }
        }
        for (int cell = 0; cell < 3 * 5 * 6; cell++) {
            all.add(new Call("owner", cell / 30, cell / 6 % 5, cell % 6));
        }
        for (int what = 0; what <= 8; what++) {
            all.add(new Call("count", what));
        }
        all.add(new Call("isSound"));
        all.add(new Call("digest"));
        return all;
    }

    private static void askFlat(List<Call> all, int flat) {
        for (int day : ASKED) {
            all.add(new Call("area", flat, day));
            all.add(new Call("tenant", flat, day));
            all.add(new Call("reading", flat, day));
        }
        all.add(new Call("free", flat));
        all.add(new Call("best", flat));
    }

    private static void askLease(List<Call> all, int lease) {
        for (int what = 0; what <= 11; what++) {
            all.add(new Call("ofLease", lease, what));
        }
        for (int month = 0; month < 60; month++) {
            all.add(new Call("due", lease, month, 0));
            all.add(new Call("due", lease, month, 1));
        }
        for (int year = 0; year < 5; year++) {
            all.add(new Call("settled", lease, year));
        }
        all.add(new Call("text", lease));
        for (int at = 0; at < 52; at += 3) {
            all.add(new Call("spoiled", lease, at, at % 12));
        }
    }

    private static void askDays(List<Call> all, int lease) {
        for (int day : ASKED) {
            all.add(new Call("rentOf", lease, day));
            for (int what = 0; what <= 4; what++) {
                all.add(new Call("owed", lease, day, what));
            }
            all.add(new Call("pressing", lease, day));
            all.add(new Call("depositOf", lease, day, 0));
            all.add(new Call("depositOf", lease, day, 1));
            all.add(new Call("interest", lease, 0, day, true));
            all.add(new Call("interest", lease, 0, day, false));
            for (int month = 0; month < 36; month += 5) {
                all.add(new Call("open", lease, month, day));
            }
        }
    }
}

import java.lang.reflect.InvocationTargetException;
import java.lang.reflect.Method;
import java.lang.reflect.Modifier;
import java.math.BigInteger;

/** "Numbers that wrap around": digest(), arguments at the ends of int, and sums that no int holds. */
public final class WrapTest {
    private static final BigInteger WRAP = BigInteger.ONE.shiftLeft(64);

    /** Each method with arguments that are let, and of each whether it is an index (i), an argument (a) or free. */
    private static final Object[][] FACE = {
        {"flat", "aa", 0, 5}, {"shift", "iiaa", 0, 1, 5, 5}, {"lease", "iaaaaa", 1, 0, 9, 1, 5, 0},
        {"advance", "ia", 0, 5}, {"heads", "iaa", 0, 50, 1}, {"step", "iaa", 0, 50, 5}, {"freeMonth", "ia", 0, 5},
        {"option", "ia", 0, 5}, {"notice", "ia", 0, 50}, {"index", "aa", 5, 5}, {"clause", "iaa", 0, 5, 5},
        {"adjust", "ia", 0, 5}, {"compare", "aa", 0, 5}, {"raise", "ia", 0, 5}, {"defect", "iaaa", 0, 5, 6, 5},
        {"pay", "iaaa", 0, 50, 5, -1}, {"refund", "iaa", 0, 50, 5}, {"rate", "aa", 5, 5}, {"remind", "ia", 0, 50},
        {"terminate", "ia", 0, 50}, {"out", "i", 0}, {"read", "iaa", 0, 5, 5}, {"bill", "aaaaaa", 0, 0, 5, 6, 5, 5},
        {"settle", "aaa", 0, 0, 5}, {"deposit", "iaa", 0, 50, 5}, {"use", "iaa", 0, 50, 5},
        {"giveBack", "ia", 0, 800}, {"work", "iaaa", 0, 5, 6, 5}, {"undo", ""}, {"knock", ""},
        {"area", "ia", 0, 5}, {"tenant", "ia", 0, 5}, {"ofLease", "ia", 0, 0}, {"rentOf", "ia", 0, 5},
        {"due", "iaa", 0, 5, 0}, {"owed", "iaa", 0, 5, 0}, {"open", "iaa", 0, 5, 5},
        {"interest", "iaaf", 0, 5, 6, true}, {"pressing", "ia", 0, 5}, {"text", "i", 0},
        {"spoiled", "iia", 0, 5, 5}, {"reading", "ia", 0, 5}, {"share", "ii", 0, 0}, {"exactShare", "ii", 0, 0},
        {"settled", "ia", 0, 0}, {"depositOf", "iaa", 0, 5, 0}, {"free", "i", 0}, {"best", "i", 0},
        {"owner", "aaa", 0, 0, 0}, {"count", "a", 0}, {"isSound", ""}, {"digest", ""}};

    public static void main(String[] args) throws ReflectiveOperationException {
        faceIsWhole();
        eachArgumentAtBothEndsOfInt();
        allArgumentsAtBothEndsOfInt();
        endsOfIntChangeNothing();
        spansThatWrapAround();
        digestWrapsAround();
        digestOfEachAnswer();
        digestOnItsDays();
        digestOfNoneIsLessByOne();
        unitsThatNoIntHolds();
        fruitsThatNoIntHolds();
        sharesThatNoIntHolds();
        rentsThatNoIntHolds();
        Check.end("WrapTest");
    }

    private static Rentroll town() {
        Rentroll roll = new Rentroll();
        roll.flat(0, 100);
        roll.flat(0, 50);
        roll.lease(0, 40, 700, 2, 300, 0);
        roll.bill(0, 0, 0, 364, 1000, 90);
        roll.clause(0, 0, 50);
        return roll;
    }

    private static Method method(String name) {
        for (Method method : Rentroll.class.getDeclaredMethods()) {
            if (method.getName().equals(name) && Modifier.isPublic(method.getModifiers())) {
                return method;
            }
        }
        throw new IllegalStateException(name);
    }

    private static String outcome(Rentroll roll, String name, Object[] args) throws ReflectiveOperationException {
        try {
            method(name).invoke(roll, args);
            return "";
        } catch (InvocationTargetException thrown) {
            return thrown.getCause().getClass().getSimpleName();
        }
    }

    private static void faceIsWhole() {
        Check.part("the public face");
        int count = 0;
        for (Method method : Rentroll.class.getDeclaredMethods()) {
            count += Modifier.isPublic(method.getModifiers()) ? 1 : 0;
        }
        Check.eq(count, FACE.length);
        for (Object[] row : FACE) {
            Check.eq(method((String) row[0]).getParameterCount(), ((String) row[1]).length());
            Check.eq(row.length - 2, ((String) row[1]).length());
        }
    }

    private static Object[] arguments(Object[] row) {
        Object[] args = new Object[row.length - 2];
        System.arraycopy(row, 2, args, 0, args.length);
        return args;
    }

    private static String exception(char kind) {
        return kind == 'i' ? "IndexOutOfBoundsException" : kind == 'a' ? "IllegalArgumentException" : "";
    }

    private static void eachArgumentAtBothEndsOfInt() throws ReflectiveOperationException {
        for (Object[] row : FACE) {
            String kinds = (String) row[1];
            Check.part("ends of int, " + row[0]);
            if (!row[0].equals("undo")) {
                Check.same("as it is let", outcome(town(), (String) row[0], arguments(row)), "");
            }
            for (int at = 0; at < kinds.length(); at++) {
                int[] values = {Integer.MIN_VALUE, Integer.MIN_VALUE + 1, Integer.MAX_VALUE - 1, Integer.MAX_VALUE};
                for (int value : values) {
                    Object[] args = arguments(row);
                    if (kinds.charAt(at) != 'f') {
                        args[at] = value;
                        Check.same("argument " + at + " " + value, outcome(town(), (String) row[0], args),
                            exception(kinds.charAt(at)));
                    }
                }
            }
        }
    }

    private static void allArgumentsAtBothEndsOfInt() throws ReflectiveOperationException {
        for (Object[] row : FACE) {
            String kinds = (String) row[1];
            Check.part("all at the ends of int, " + row[0]);
            for (int value : new int[] {Integer.MIN_VALUE, Integer.MAX_VALUE}) {
                Object[] args = arguments(row);
                for (int at = 0; at < kinds.length(); at++) {
                    args[at] = kinds.charAt(at) == 'f' ? args[at] : (Object) value;
                }
                if (!kinds.isEmpty()) {
                    Check.same("all " + value, outcome(town(), (String) row[0], args), exception(kinds.charAt(0)));
                }
            }
        }
    }

    private static void endsOfIntChangeNothing() throws ReflectiveOperationException {
        Check.part("ends of int change nothing");
        Rentroll roll = town();
        String before = Picture.of(roll);
        for (Object[] row : FACE) {
            Object[] args = arguments(row);
            String kinds = (String) row[1];
            for (int at = 0; at < args.length; at++) {
                args[at] = kinds.charAt(at) == 'f' ? args[at] : (Object) Integer.MAX_VALUE;
            }
            if (args.length > 0) {
                outcome(roll, (String) row[0], args);
            }
        }
        Check.eq(Picture.of(roll), before);
    }

    private static void spansThatWrapAround() {
        Check.part("spans whose length is beyond int");
        Rentroll roll = town();
        Check.notLet(() -> roll.lease(1, Integer.MIN_VALUE, Integer.MAX_VALUE, 1, 5, 0));
        Check.notLet(() -> roll.lease(1, 0, Integer.MAX_VALUE, 1, 5, 0));
        Check.notLet(() -> roll.defect(0, 5, Integer.MAX_VALUE, 5));
        Check.notLet(() -> roll.defect(0, 5, Integer.MIN_VALUE, 5));
        Check.notLet(() -> roll.bill(0, 0, Integer.MIN_VALUE, 5, 5, 5));
        Check.notLet(() -> roll.bill(0, 0, 0, Integer.MAX_VALUE, 5, 5));
        Check.notLet(() -> roll.work(0, 0, Integer.MAX_VALUE, 5));
        Check.notLet(() -> roll.interest(0, 0, Integer.MAX_VALUE, true));
        Check.notLet(() -> roll.interest(0, Integer.MIN_VALUE, 5, true));
        Check.notLet(() -> roll.option(0, Integer.MAX_VALUE));
        Check.notLet(() -> roll.pay(0, 50, 5, Integer.MIN_VALUE));
        Check.noSuch(() -> roll.share(0, Integer.MIN_VALUE));
        Check.noSuch(() -> roll.exactShare(0, Integer.MAX_VALUE));
        Check.eq(roll.count(7), 5);
    }

    // ---- digest()

    /** d * 31 + v, with all digits, cut to 64 bits only when it is told. */
    private static final class Sum {
        private BigInteger d = BigInteger.valueOf(6508);

        void add(long v) {
            d = d.multiply(BigInteger.valueOf(31)).add(BigInteger.valueOf(v));
        }

        long wrapped() {
            return d.mod(WRAP).longValue();
        }
    }

    private static void addFlats(Sum sum, Rentroll roll) {
        for (int flat = 0; flat < roll.count(0); flat++) {
            for (int day = 0; day <= 1824; day += 1824) {
                sum.add(roll.area(flat, day));
                sum.add(roll.reading(flat, day));
            }
            sum.add(roll.free(flat).length());
            sum.add(roll.best(flat).length());
        }
    }

    private static void addLeases(Sum sum, Rentroll roll) {
        for (int lease = 0; lease < roll.count(1); lease++) {
            for (int what = 0; what <= 11; what++) {
                sum.add(roll.ofLease(lease, what));
            }
            for (int day = 700; day <= 1824; day += 1124) {
                sum.add(roll.rentOf(lease, day));
                for (int what = 0; what <= 3; what++) {
                    sum.add(roll.owed(lease, day, what));
                }
            }
            sum.add(roll.interest(lease, 0, 1824, true).length());
            for (int year = 0; year <= 4; year++) {
                sum.add(roll.settled(lease, year));
            }
            sum.add(roll.depositOf(lease, 1824, 0));
            sum.add(roll.depositOf(lease, 1824, 1));
            sum.add(roll.text(lease).length());
        }
    }

    private static Sum sumOf(Rentroll roll) {
        Sum sum = new Sum();
        for (int what = 0; what <= 8; what++) {
            sum.add(roll.count(what));
        }
        addFlats(sum, roll);
        addLeases(sum, roll);
        for (int bill = 0; bill < roll.count(2); bill++) {
            sum.add(roll.share(bill, -1));
            for (int lease = 0; lease < roll.count(1); lease++) {
                sum.add(roll.share(bill, lease));
            }
        }
        sum.add(roll.isSound() ? 1 : 0);
        return sum;
    }

    private static void digestWrapsAround() {
        Check.part("promise 53: which wraps around as a 64-bit integer");
        boolean isBelow = false;
        boolean isAbove = false;
        for (int steps = 0; steps < 6; steps++) {
            Rentroll roll = new Rentroll();
            for (int step = 0; step <= steps; step++) {
                makeStep(roll, step);
            }
            Sum sum = sumOf(roll);
            long digest = roll.digest();
            Check.eq(digest, sum.wrapped());
            Check.yes(sum.d.bitLength() > 64 || steps == 0);
            isBelow = isBelow || digest < 0;
            isAbove = isAbove || digest > 0;
        }
        Check.yes(isBelow && isAbove);
    }

    private static void makeStep(Rentroll roll, int step) {
        switch (step) {
            case 0: break;
            case 1:
                roll.flat(0, 500);
                roll.flat(2, 1);
                break;
            case 2:
                roll.lease(0, 10, 1000, 6, 100000, 2);
                roll.lease(0, 1001, -1, 1, 1, 1);
                break;
            case 3:
                roll.advance(0, 100000);
                roll.rate(0, 5000);
                roll.knock();
                break;
            case 4:
                roll.bill(0, 0, 0, 1824, 100000, 99);
                roll.bill(0, 1, 0, 999, 77, 100);
                roll.settle(0, 4, 1800);
                break;
            default:
                roll.pay(0, 1700, 100000, -1);
                roll.deposit(0, 5, 100000);
                roll.read(1, 0, 5);
                roll.work(1, 0, 5, 5);
                break;
        }
    }

    /** A call on a roll. */
    private interface Done {
        int by(Rentroll roll);
    }

    /** Each answer of which the checksum is made counts: a call that changes one of them changes it. */
    private static void digestOfEachAnswer() {
        Check.part("promise 53: for each v in this order");
        Done[] calls = {r -> r.flat(0, 5), r -> r.shift(0, 1, 5, 0), r -> r.shift(0, 1, 5, 1824),
            r -> r.read(0, 0, 5), r -> r.work(1, 0, 5, 5), r -> r.lease(1, 0, 5, 1, 5, 0), r -> r.notice(0, 40),
            r -> r.terminate(0, 600), r -> r.step(0, 700, 5), r -> r.step(0, 1824, 5), r -> r.defect(0, 0, 0, 5),
            r -> r.remind(0, 100), r -> r.freeMonth(0, 59), r -> r.pay(0, 700, 1, -1), r -> r.pay(0, 1824, 1, -1),
            r -> r.deposit(0, 1824, 1), r -> r.settle(0, 0, 5), r -> r.index(5, 5), r -> r.rate(5, 0),
            r -> r.bill(0, 0, 5, 5, 5, 5), r -> r.option(0, 1)};
        for (Done call : calls) {
            Rentroll roll = town();
            roll.rate(0, 100);
            long before = roll.digest();
            call.by(roll);
            Check.eq(roll.count(7), 7);
            Check.yes(roll.digest() != before);
            Check.eq(roll.digest(), sumOf(roll).wrapped());
            roll.undo();
            Check.eq(roll.digest(), before);
        }
    }

    private static void digestOnItsDays() {
        Check.part("promise 53: on DAY 0, DAY 700, DAY 1824, not on those next to them");
        Rentroll roll = new Rentroll();
        roll.flat(0, 100);
        roll.flat(0, 100);
        roll.lease(0, 0, 1823, 2, 300, 0);
        roll.lease(1, 1800, 1824, 2, 3000, 0);
        roll.shift(0, 1, 1, 1);
        roll.shift(0, 1, 10, 1824);
        int[] days = {0, 1, 1823, 1824};
        for (int at = 0; at < days.length; at++) {
            roll.read(0, days[at], 10 + at);
            roll.rate(days[at], at == 3 ? 5000 : 0);
        }
        for (int day : new int[] {699, 700, 701, 1823, 1824}) {
            roll.step(0, day, 100 + day % 10);
            roll.pay(0, day, 1 + day % 10, -1);
            roll.deposit(0, day, 1000 * (1 + day % 10));
        }
        Check.eq(roll.digest(), sumOf(roll).wrapped());
        Check.yes(roll.interest(0, 0, 1823, true).length() < roll.interest(0, 0, 1824, true).length());
        // work in a free DAY, and a REFUSED one
        roll.work(0, 1824, 1824, 5);
        roll.knock();
        Check.eq(roll.digest(), sumOf(roll).wrapped());
    }

    private static void digestOfNoneIsLessByOne() {
        Check.part("promise 53: NONE is a v of -1");
        Rentroll roll = new Rentroll();
        roll.flat(0, 5);
        roll.lease(0, 0, -1, 1, 5, 0);
        Check.eq(roll.ofLease(0, 1), -1);
        Check.eq(roll.ofLease(0, 3), -1);
        Check.eq(roll.ofLease(0, 4), -1);
        Check.eq(roll.digest(), sumOf(roll).wrapped());
    }

    // ---- sums

    private static void unitsThatNoIntHolds() {
        Check.part("promise 39: UNITS beyond int");
        Rentroll roll = new Rentroll();
        roll.flat(0, 5);
        roll.lease(0, 0, -1, 1, 100000, 0);
        roll.advance(0, 100000);
        // on DAY 1824 sixty MONTHS of 200000, of which the last one was due on DAY 1796
        roll.rate(1824, 5000);
        Check.eq(roll.interest(0, 0, 1824, true), "60000000000");
        Check.eq(roll.interest(0, 0, 1824, false), "16438");
        roll.rate(0, 5000);
        roll.rate(1824, 0);
        // on DAYS 3 to 33 one MONTH of 200000, on DAY 34 two
        Check.eq(roll.interest(0, 0, 33, true), "31000000000");
        Check.eq(roll.interest(0, 0, 34, true), "33000000000");
        Check.eq(roll.owed(0, 1824, 0), 12000000);
    }

    private static void fruitsThatNoIntHolds() {
        Check.part("promise 47: UNITS of FRUITS beyond int");
        Rentroll roll = new Rentroll();
        roll.flat(0, 5);
        roll.lease(0, 0, 5, 1, 5, 0);
        roll.rate(0, 5000);
        for (int call = 0; call < 400; call++) {
            roll.deposit(0, 0, 100000);
        }
        Check.eq(roll.depositOf(0, 1824, 0), 40000000);
        Check.eq(roll.depositOf(0, 1824, 1), 40000000L * 5000 * 1824 / 3650000);
        Check.eq(roll.giveBack(0, 1824), 40000000L + 40000000L * 5000 * 1824 / 3650000);
    }

    private static void sharesThatNoIntHolds() {
        Check.part("promise 45: products beyond int");
        Rentroll roll = new Rentroll();
        for (int flat = 0; flat < 8; flat++) {
            roll.flat(0, 500);
            roll.read(flat, 0, 0);
            roll.read(flat, 1824, 100000);
        }
        for (int flat = 0; flat < 7; flat++) {
            roll.lease(flat, 0, -1, 6, 5, 0);
        }
        String[] exact = {"12500.000000", "14285.714285", "12500.000000", "12500.000000", "12500.000000"};
        for (int key = 0; key <= 4; key++) {
            roll.bill(0, key, 0, 1824, 100000, 100);
            Check.eq(roll.exactShare(key, 6), exact[key]);
            Check.eq(roll.exactShare(key, -1), key == 1 ? "0.000000" : exact[key]);
        }
        Check.yes(roll.isSound());
    }

    private static void rentsThatNoIntHolds() {
        Check.part("promises 13, 36: products beyond int");
        Rentroll roll = new Rentroll();
        roll.flat(0, 500);
        roll.lease(0, 0, 29, 1, 100000, 1);
        roll.lease(0, 31, -1, 1, 66667, 0);
        // 100000 * 100 * 30 * 12 by 36500
        Check.eq(roll.due(0, 0, 0), 98630);
        roll.clause(1, 0, 50);
        roll.index(1, 9000);
        roll.index(2, 10000);
        Check.eq(roll.adjust(1, 2), 74074);
        roll.index(3, 10000);
        Check.eq(roll.adjust(1, 3), -9);
        roll.undo();
        roll.undo();
        roll.step(1, 31, 99999);
        roll.index(2, 9001);
        Check.eq(roll.adjust(1, 2), 100000);
        for (int row = 0; row < 3; row++) {
            roll.compare(0, 1000);
        }
        roll.step(1, 31, 1);
        roll.step(1, 59, 1);
        Check.eq(roll.raise(1, 3), -9);
        roll.step(1, 31, 100000);
        Check.eq(roll.raise(1, 3), 100000);
    }
}

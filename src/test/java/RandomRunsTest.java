import java.lang.reflect.InvocationTargetException;
import java.lang.reflect.Method;
import java.lang.reflect.Modifier;
import java.util.ArrayList;
import java.util.Arrays;
import java.util.List;
import java.util.Map;
import java.util.Random;
import java.util.TreeMap;

/** Makes the same calls, some 500 on an object, to Rentroll and to NaiveRoll, and compares all answers. */
public final class RandomRunsTest {
    private static final int RUNS = 140;
    private static final int CALLS = 500;
    private static final String[] ALL = {
        "shift 2", "lease 6", "advance 4", "heads 4", "step 5", "freeMonth 3", "option 3", "notice 3", "index 6",
        "clause 3", "adjust 5", "compare 3", "raise 3", "defect 3", "pay 20", "refund 4", "rate 4", "remind 6",
        "terminate 8", "out 3", "read 6", "bill 3", "settle 4", "deposit 4", "use 4", "giveBack 3", "work 3",
        "undo 8", "knock 1", "area 1", "tenant 3", "ofLease 12", "rentOf 3", "due 8", "owed 16", "open 6",
        "interest 5", "pressing 5", "text 2", "spoiled 4", "reading 3", "share 6", "exactShare 6", "settled 3",
        "depositOf 4", "free 3", "best 4", "owner 4", "count 3", "isSound 1", "digest 1", "flat 1"};
    /** Words that are made more of, run by run. */
    private static final String[][] MORE = {
        {},
        {"pay 60", "terminate 40", "out 8", "owed 30", "pressing 10", "ofLease 30"},
        {"bill 10", "heads 20", "shift 15", "read 30", "share 30", "exactShare 40", "settle 15", "advance 12"},
        {"work 20", "best 30", "free 15", "lease 20", "notice 15", "option 15", "undo 20"},
        {"deposit 40", "use 30", "giveBack 40", "rate 30", "depositOf 40", "notice 10", "interest 30"},
        {"index 40", "clause 15", "adjust 60", "compare 20", "raise 60", "step 20", "rentOf 20", "ofLease 10"},
        {"pay 60", "refund 60", "remind 40", "settle 30", "open 40", "owed 40", "interest 20", "defect 10"},
        {"undo 60", "terminate 20", "pay 30", "digest 5"}};

    private final Random random;
    private final List<String> names = new ArrayList<>();
    private final List<String> made = new ArrayList<>();
    private final Rentroll quick = new Rentroll();
    private final NaiveRoll naive = new NaiveRoll();
    private final int wrongs;
    private final boolean isOfRents;
    private static final Map<String, Method> QUICK = methods(Rentroll.class);
    private static final Map<String, Method> NAIVE = methods(NaiveRoll.class);
    private static final Map<String, Integer> MADE = new TreeMap<>();

    private RandomRunsTest(int run) {
        random = new Random(6508 + run);
        wrongs = run % 3 == 0 ? 12 : 2;
        isOfRents = MORE[run % MORE.length].length > 0 && MORE[run % MORE.length][0].startsWith("index");
        addNames(ALL);
        addNames(MORE[run % MORE.length]);
    }

    private void addNames(String[] words) {
        for (String word : words) {
            String[] parts = word.split(" ");
            for (int time = 0; time < Integer.parseInt(parts[1]); time++) {
                names.add(parts[0]);
            }
        }
    }

    private static Map<String, Method> methods(Class<?> of) {
        Map<String, Method> map = new TreeMap<>();
        for (Method method : of.getDeclaredMethods()) {
            if (Modifier.isPublic(method.getModifiers())) {
                map.put(method.getName(), method);
            }
        }
        return map;
    }

    public static void main(String[] args) {
        int runs = args.length > 1 ? Integer.parseInt(args[1]) : RUNS;
        int first = args.length > 2 ? Integer.parseInt(args[2]) : 0;
        for (int run = first; run < first + runs; run++) {
            Check.part("run " + run);
            if (!new RandomRunsTest(run).isAlike()) {
                break;
            }
        }
        if (args.length > 1) {
            System.out.println(MADE);
        }
        Check.end("RandomRunsTest");
    }

    private boolean isAlike() {
        int flats = 1 + random.nextInt(5);
        for (int flat = 0; flat < flats; flat++) {
            compare("flat", random.nextInt(4) == 0 ? random.nextInt(3) : 0, 1 + random.nextInt(120));
        }
        int calls = flats + (isOfRents ? tellIndexesAndRows() : 0);
        for (int call = calls; call < CALLS && Check.isRight(); call++) {
            String name = call < calls + 4 ? "lease"
                : call < calls + 10 && isOfRents ? "clause" : names.get(random.nextInt(names.size()));
            compare(name, arguments(name));
        }
        compare("digest");
        return Check.isRight();
    }

    /** Without many of them no rent would ever be adjusted or raised. */
    private int tellIndexesAndRows() {
        int value = 100;
        for (int month = 0; month < 30; month++) {
            compare("index", month, value);
            value += random.nextInt(6) - 1;
        }
        for (int row = 0; row < 4; row++) {
            compare("compare", 0, 4 + random.nextInt(10));
        }
        return 34;
    }

    private void compare(String name, int... args) {
        Object[] boxed = new Object[args.length];
        for (int at = 0; at < args.length; at++) {
            boxed[at] = args[at];
        }
        if (name.equals("interest") && args.length == 4) {
            boxed[3] = args[3] % 2 == 0;
        }
        Object got = outcome(QUICK.get(name), quick, boxed);
        Object due = outcome(NAIVE.get(name), naive, boxed);
        made.add(name + Arrays.toString(boxed) + " " + due);
        String kind = due instanceof String && ((String) due).endsWith("Exception") ? " throws"
            : Integer.valueOf(-9).equals(due) ? " -9" : "";
        MADE.merge(name + kind, 1, Integer::sum);
        Check.same(name + Arrays.toString(boxed), got, due);
        if (!Check.isRight()) {
            made.forEach(System.out::println);
        }
    }

    private static Object outcome(Method method, Object object, Object[] args) {
        try {
            return method.invoke(object, args);
        } catch (InvocationTargetException thrown) {
            return thrown.getCause().getClass().getSimpleName();
        } catch (IllegalAccessException thrown) {
            throw new IllegalStateException(thrown);
        }
    }

    // ---- arguments, now and then wrong ones

    private int between(int least, int most) {
        if (random.nextInt(1000) < wrongs) {
            int[] odd = {least - 1, most + 1, -1, -2, 0, 1825, Integer.MAX_VALUE, Integer.MIN_VALUE};
            return odd[random.nextInt(odd.length)];
        }
        return least + random.nextInt(Math.max(most - least + 1, 1));
    }

    private int lease() {
        return between(0, naive.count(1) - 1);
    }

    private int flat() {
        return between(0, naive.count(0) - 1);
    }

    private int day() {
        if (random.nextInt(8) == 0) {
            int[] edges = {0, 1, 364, 365, 730, 1823, 1824, 31, 59};
            return edges[random.nextInt(edges.length)];
        }
        return random.nextInt(3) == 0 ? between(0, 1824) : between(0, 500);
    }

    private int month() {
        return random.nextInt(3) == 0 ? between(0, 59) : between(0, 17);
    }

    private int coins(int most) {
        return random.nextInt(4) == 0 ? between(1, 100000) : between(1, most);
    }

    /** Mostly a day of the lease. */
    private int dayOf(int lease) {
        if (lease < 0 || lease >= naive.count(1) || random.nextInt(8) == 0) {
            return day();
        }
        int from = naive.ofLease(lease, 0);
        int last = naive.ofLease(lease, 2);
        int most = random.nextInt(3) == 0 ? last : Math.min(last, from + 200);
        return between(from, Math.max(from, most));
    }

    private int to(int from) {
        return between(from, Math.min(1824, from + (random.nextInt(3) == 0 ? 1825 : 120)));
    }

    private int[] arguments(String name) {
        int lease = lease();
        int day = dayOf(lease);
        int from = day();
        switch (name) {
            case "flat": return new int[] {between(0, 2), between(1, 500)};
            case "shift": return new int[] {flat(), flat(), between(1, 40), day()};
            case "lease": return leaseArguments(flat());
            case "advance": return new int[] {lease, random.nextInt(3) == 0 ? 0 : coins(80)};
            case "heads": return new int[] {lease, day, between(1, 6)};
            case "step": return new int[] {lease, day, coins(800)};
            case "freeMonth": return new int[] {lease, month()};
            case "adjust": case "raise": return new int[] {lease, random.nextInt(4) == 0 ? month() : day / 30};
            case "option": return new int[] {lease, random.nextBoolean() ? between(1, 60) : between(1, 1000)};
            case "notice": case "remind": case "terminate": return new int[] {lease, day};
            case "index": return new int[] {month(), between(90, random.nextInt(5) == 0 ? 10000 : 140)};
            case "clause": return new int[] {lease, between(0, random.nextInt(3) == 0 ? 50 : 9), between(0, 50)};
            case "compare": return new int[] {between(0, 2), between(1, random.nextInt(5) == 0 ? 1000 : 12)};
            case "defect": return new int[] {lease, from, to(from), between(1, 100)};
            case "pay": return new int[] {lease, day, coins(700), random.nextBoolean() ? -1 : month()};
            case "refund": return new int[] {lease, day, coins(60)};
            case "rate": return new int[] {day(), between(0, 5000)};
            case "out": case "text": return new int[] {lease};
            case "read": return new int[] {flat(), day(), between(0, random.nextInt(4) == 0 ? 100000 : 900)};
            case "bill": return billArguments(from);
            case "settle": return new int[] {between(0, random.nextInt(3)), between(0, 2), day()};
            default: return moreArguments(name, lease, day, from);
        }
    }

    private int[] leaseArguments(int flat) {
        int from = day();
        int to = random.nextInt(4) == 0 ? -1 : to(from);
        return new int[] {flat, from, to, between(1, 6), coins(900), between(0, 2)};
    }

    private int[] billArguments(int from) {
        int laid = random.nextInt(3) == 0 ? 100 : between(0, 100);
        int coins = random.nextInt(4) == 0 ? between(1, 9) : coins(3000);
        return new int[] {random.nextInt(4) == 0 ? between(0, 2) : 0, between(0, 4), from, to(from), coins, laid};
    }

    private int[] moreArguments(String name, int lease, int day, int from) {
        int bill = between(0, naive.count(2) - 1);
        int bearer = random.nextInt(4) == 0 ? -1 : lease;
        switch (name) {
            case "deposit": return new int[] {lease, random.nextInt(4) == 0 ? day : between(0, 250), coins(2000)};
            case "use": return new int[] {lease, random.nextInt(4) == 0 ? day : between(250, 500), coins(200)};
            case "giveBack": return new int[] {lease, random.nextBoolean() ? between(0, 1824) : day};
            case "work": return new int[] {flat(), from, to(from), between(1, random.nextBoolean() ? 5 : 1000)};
            case "area": case "tenant": case "reading": return new int[] {flat(), day()};
            case "ofLease": return new int[] {lease, between(0, 11)};
            case "rentOf": case "pressing": return new int[] {lease, day};
            case "due": return new int[] {lease, month(), between(0, 1)};
            case "owed": return new int[] {lease, random.nextInt(4) == 0 ? day() : day, between(0, 4)};
            case "open": return new int[] {lease, month(), random.nextInt(4) == 0 ? day() : day};
            case "interest": return new int[] {lease, from, to(from), random.nextInt(2)};
            case "spoiled": return new int[] {lease, between(0, naive.count(1) > 0 ? 55 : 0), between(0, 11)};
            case "share": case "exactShare": return new int[] {bill, bearer};
            case "settled": return new int[] {lease, between(0, 4)};
            case "depositOf": return new int[] {lease, random.nextInt(3) == 0 ? 1824 : day, between(0, 1)};
            case "free": case "best": return new int[] {flat()};
            case "owner": return new int[] {between(0, 2), between(0, 4), between(0, 5)};
            case "count": return new int[] {between(0, 8)};
            default: return new int[0];
        }
    }
}

import java.lang.reflect.Array;
import java.lang.reflect.Field;
import java.lang.reflect.Modifier;
import java.util.ArrayDeque;
import java.util.Deque;
import java.util.IdentityHashMap;
import java.util.Map;

/** Promises 51 to 53, the end of an object's calls, and how much room one takes. */
public final class WholeTest {
    public static void main(String[] args) throws IllegalAccessException {
        count();
        isSound();
        digestOfNothing();
        digestByHand();
        allCalls();
        room();
        Check.end("WholeTest");
    }

    private static void count() {
        Check.part("promise 51");
        Rentroll roll = new Rentroll();
        roll.flat(0, 50);
        roll.flat(1, 50);
        roll.lease(0, 0, -1, 1, 300, 0);
        roll.bill(0, 0, 0, 5, 5, 5);
        roll.pay(0, 0, 5, -1);
        roll.pay(0, 0, 5, -1);
        roll.work(1, 0, 5, 5);
        roll.index(5, 5);
        roll.index(5, 6);
        roll.index(6, 6);
        roll.rate(5, 6);
        roll.rate(5, 7);
        roll.rate(6, 7);
        roll.rate(7, 7);
        roll.knock();
        int[] due = {2, 1, 1, 2, 1, 2, 3, 14, 1};
        for (int what = 0; what <= 8; what++) {
            Check.eq(roll.count(what), due[what]);
        }
        Check.notLet(() -> roll.count(-1));
        Check.notLet(() -> roll.count(9));
        roll.undo();
        Check.eq(roll.count(6), 2);
        Check.eq(roll.count(7), 13);
        Check.eq(roll.count(8), 1);
    }

    private static void isSound() {
        Check.part("promise 52");
        Rentroll roll = new Rentroll();
        Check.yes(roll.isSound());
        roll.flat(0, 50);
        roll.flat(0, 30);
        roll.lease(0, 0, -1, 1, 300, 0);
        roll.lease(1, 100, 499, 1, 300, 1);
        roll.lease(1, 500, -1, 5, 100000, 2);
        roll.rate(0, 5000);
        roll.advance(0, 40);
        roll.terminate(0, 33);
        roll.deposit(1, 50, 700);
        roll.use(1, 150, 300);
        roll.read(0, 10, 10);
        roll.read(0, 1810, 777);
        roll.remind(0, 60);
        for (int key = 0; key < 5; key++) {
            roll.bill(0, key, 3, 364, 10007, 97);
        }
        roll.settle(0, 0, 365);
        roll.pay(0, 60, 100000, 1);
        roll.refund(0, 70, 500);
        Check.yes(roll.isSound());
        Check.eq(roll.out(0), -9);
        roll.giveBack(1, 700);
        roll.notice(2, 800);
        Check.yes(roll.isSound());
        Check.eq(roll.count(7), 23);
    }

    private static void digestOfNothing() {
        Check.part("promise 53");
        // nine counts of 0, then 1 for isSound()
        long d = 6508;
        for (int v = 0; v < 9; v++) {
            d = d * 31;
        }
        Check.eq(new Rentroll().digest(), d * 31 + 1);
        Rentroll roll = new Rentroll();
        roll.knock();
        Check.eq(roll.digest(), (d + 1) * 31 + 1);
    }

    private static void digestByHand() {
        Rentroll roll = new Rentroll();
        roll.flat(0, 60);
        roll.flat(0, 40);
        roll.lease(0, 0, -1, 2, 300, 0);
        roll.rate(0, 500);
        roll.pay(0, 5, 1000, -1);
        roll.bill(0, 0, 0, 364, 100, 90);
        roll.work(1, 5, 6, 5);
        roll.deposit(0, 5, 5000);
        roll.read(1, 5, 5);
        long d = 6508;
        for (int what = 0; what <= 8; what++) {
            d = d * 31 + roll.count(what);
        }
        for (int flat = 0; flat < 2; flat++) {
            d = ((d * 31 + roll.area(flat, 0)) * 31 + roll.reading(flat, 0)) * 31 + roll.area(flat, 1824);
            d = d * 31 + roll.reading(flat, 1824);
            d = (d * 31 + roll.free(flat).length()) * 31 + roll.best(flat).length();
        }
        for (int what = 0; what <= 11; what++) {
            d = d * 31 + roll.ofLease(0, what);
        }
        for (int day = 700; day <= 1824; day += 1124) {
            d = d * 31 + roll.rentOf(0, day);
            for (int what = 0; what <= 3; what++) {
                d = d * 31 + roll.owed(0, day, what);
            }
        }
        d = d * 31 + roll.interest(0, 0, 1824, true).length();
        for (int year = 0; year <= 4; year++) {
            d = d * 31 + roll.settled(0, year);
        }
        d = (d * 31 + roll.depositOf(0, 1824, 0)) * 31 + roll.depositOf(0, 1824, 1);
        d = d * 31 + roll.text(0).length();
        d = (d * 31 + roll.share(0, -1)) * 31 + roll.share(0, 0);
        Check.eq(roll.digest(), d * 31 + 1);
        Check.eq(roll.digest(), d * 31 + 1);
    }

    /** 512 calls of one kind each: nothing may be too small for them. */
    private static void allCalls() {
        Check.part("512 calls");
        Rentroll steps = new Rentroll();
        steps.flat(0, 50);
        steps.flat(0, 500);
        steps.lease(0, 0, -1, 1, 300, 0);
        for (int call = 3; call < 509; call++) {
            Check.eq(steps.step(0, call, call), call == 3 ? 300 : call - 1);
        }
        Check.eq(steps.ofLease(0, 6), 507);
        Check.eq(steps.undo(), 508);
        Check.eq(steps.ofLease(0, 6), 506);
        Rentroll shifts = new Rentroll();
        shifts.flat(0, 500);
        shifts.flat(0, 500);
        for (int call = 2; call < 511; call++) {
            Check.eq(shifts.shift(call % 2, 1 - call % 2, 1, call), call % 2 == 0 ? 499 : 500);
        }
        Check.eq(shifts.area(0, 1824), 499);
        settlements();
        payments();
        // nothing is promised of later calls, but that they neither fail nor end in an error of the machine
        for (int call = 0; call < 40; call++) {
            shifts.shift(0, 1, 1, 1000 + call);
            steps.step(0, 1000 + call, 5);
        }
    }

    private static void settlements() {
        Rentroll roll = new Rentroll();
        roll.flat(0, 500);
        for (int lease = 0; lease < 12; lease++) {
            roll.lease(0, 365 * 4 + lease * 20, 365 * 4 + lease * 20 + 9, 1, 300, 0);
        }
        int bill = 0;
        for (int call = 13; call < 510; call++) {
            if (call % 2 == 1) {
                roll.advance(call / 2 % 12, call);
            } else if (call % 40 == 0 && bill < 12) {
                Check.eq(roll.bill(0, 0, 1460, 1824, 100000, 100), bill);
                bill++;
            } else {
                Check.yes(roll.settle(0, 4, call) > 0);
            }
        }
        Check.yes(roll.isSound());
        Check.yes(roll.ofLease(0, 11) > 12);
    }

    private static void payments() {
        Rentroll roll = new Rentroll();
        roll.flat(0, 50);
        roll.lease(0, 0, -1, 1, 100000, 0);
        for (int call = 2; call < 508; call++) {
            Check.eq(roll.pay(0, call * 3, 100000, call % 61 - 1), call - 1);
        }
        Check.eq(roll.owed(0, 1824, 1), 506 * 100000 - 60 * 100000);
        Check.eq(roll.owner(0, 0, 2) + roll.owner(0, 1, 2), 100000 * 242);
        Check.yes(roll.isSound());
    }

    /** An object and all that hangs on it: objects and arrays, then their fields and elements. */
    private static void room() throws IllegalAccessException {
        Check.part("room");
        Map<Object, Boolean> seen = new IdentityHashMap<>();
        Deque<Object> left = new ArrayDeque<>();
        left.add(new Rentroll());
        long cells = 0;
        while (!left.isEmpty()) {
            Object object = left.poll();
            boolean isOwn = object.getClass().isArray() || object.getClass().getName().startsWith("Rentroll");
            if (seen.put(object, true) != null || !isOwn) {
                continue;
            }
            cells += object.getClass().isArray() ? elements(object, left) : fields(object, left);
        }
        System.out.println("one object: " + seen.size() + " objects and arrays, " + cells + " fields and elements");
        Check.yes(seen.size() < 200);
        Check.yes(cells < 120000);
    }

    private static long elements(Object array, Deque<Object> left) {
        int length = Array.getLength(array);
        for (int at = 0; at < length && !array.getClass().getComponentType().isPrimitive(); at++) {
            if (Array.get(array, at) != null) {
                left.add(Array.get(array, at));
            }
        }
        return length;
    }

    private static long fields(Object object, Deque<Object> left) throws IllegalAccessException {
        long count = 0;
        for (Class<?> type = object.getClass(); type != Object.class; type = type.getSuperclass()) {
            for (Field field : type.getDeclaredFields()) {
                if (!Modifier.isStatic(field.getModifiers())) {
                    count++;
                    field.setAccessible(true);
                    if (!field.getType().isPrimitive() && field.get(object) != null) {
                        left.add(field.get(object));
                    }
                }
            }
        }
        return count;
    }
}

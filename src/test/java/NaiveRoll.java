import java.lang.reflect.Method;
import java.util.ArrayList;
import java.util.Arrays;
import java.util.List;
import java.util.Map;
import java.util.TreeMap;
import java.util.TreeSet;

/**
 * The document once more, day by day and without any haste: what Rentroll answers is compared with this.
 * Nothing is kept but what was told; undoing tells all but the last call again.
 */
public final class NaiveRoll {
    private static final int NONE = -1;
    private static final int CANNOT = -9;
    private static final int[] LENGTHS = {31, 28, 31, 30, 31, 30, 31, 31, 30, 31, 30, 31};

    private static final class Flat {
        int house;
        TreeMap<Integer, Integer> areas = new TreeMap<>();
        TreeMap<Integer, Integer> readings = new TreeMap<>();
    }

    private static final class Lease {
        int number;
        int flat;
        int from;
        int to;
        int way;
        int advance;
        int notice = NONE;
        int bar = NONE;
        int top = NONE;
        int base;
        int terminated = NONE;
        int givenBack = NONE;
        TreeMap<Integer, Integer> heads = new TreeMap<>();
        TreeMap<Integer, Integer> rents = new TreeMap<>();
        TreeSet<Integer> freeMonths = new TreeSet<>();
        List<int[]> defects = new ArrayList<>();
        List<int[]> payments = new ArrayList<>();
        List<int[]> used = new ArrayList<>();
        List<int[]> settlements = new ArrayList<>();
        List<int[]> refunds = new ArrayList<>();
        List<Integer> reminders = new ArrayList<>();
        List<int[]> moves = new ArrayList<>();
    }

    private static final class Debt {
        int day;
        int kind;
        int month;
        int told;
        int coins;
        int open;
    }

    /** All debts of a lease, and what was open of each behind each day. */
    private static final class Account {
        List<Debt> debts = new ArrayList<>();
        List<int[]> openBehind = new ArrayList<>();
        int[] credit = new int[1825];
        long paid;
    }

    private final List<Object[]> told = new ArrayList<>();
    private final List<Flat> flats = new ArrayList<>();
    private final List<Lease> leases = new ArrayList<>();
    private final List<int[]> rows = new ArrayList<>();
    private final List<int[]> bills = new ArrayList<>();
    private final List<int[]> works = new ArrayList<>();
    private final TreeMap<Integer, Integer> indexes = new TreeMap<>();
    private final TreeMap<Integer, Integer> rates = new TreeMap<>();
    private final Map<String, Object> remembered = new TreeMap<>();
    private int refused;

    public NaiveRoll() {
    }

    // ---- days

    private static int first(int month) {
        int day = 0;
        for (int m = 0; m < month; m++) {
            day += LENGTHS[m % 12];
        }
        return day;
    }

    private static int month(int day) {
        int month = 0;
        while (first(month + 1) <= day) {
            month++;
        }
        return month;
    }

    private static void let(boolean isLet) {
        if (!isLet) {
            throw new IllegalArgumentException();
        }
    }

    private static void state(boolean isRight) {
        if (!isRight) {
            throw new IllegalStateException();
        }
    }

    private static boolean in(int value, int least, int most) {
        return least <= value && value <= most;
    }

    private Flat flatOf(int flat) {
        if (flat < 0 || flat >= flats.size()) {
            throw new IndexOutOfBoundsException();
        }
        return flats.get(flat);
    }

    private Lease leaseOf(int lease) {
        if (lease < 0 || lease >= leases.size()) {
            throw new IndexOutOfBoundsException();
        }
        return leases.get(lease);
    }

    private int done(int answer, String name, int... args) {
        told.add(new Object[] {name, args});
        remembered.clear();
        return answer;
    }

    private static int value(TreeMap<Integer, Integer> changes, int day, int otherwise) {
        Map.Entry<Integer, Integer> entry = changes.floorEntry(day);
        return entry == null ? otherwise : entry.getValue();
    }

    // ---- what is done

    public int flat(int house, int area) {
        let(in(house, 0, 2) && in(area, 1, 500));
        state(flats.size() < 8);
        Flat flat = new Flat();
        flat.house = house;
        flat.areas.put(0, area);
        flats.add(flat);
        return done(flats.size() - 1, "flat", house, area);
    }

    public int shift(int from, int to, int area, int day) {
        Flat less = flatOf(from);
        Flat more = flatOf(to);
        let(from != to && less.house == more.house && in(area, 1, 500) && in(day, 0, 1824));
        if (less.areas.lastKey() > day || more.areas.lastKey() > day || value(less.areas, day, 0) - area < 1) {
            return CANNOT;
        }
        less.areas.put(day, value(less.areas, day, 0) - area);
        more.areas.put(day, value(more.areas, day, 0) + area);
        return done(value(less.areas, day, 0), "shift", from, to, area, day);
    }

    private boolean isMeeting(int flat, int from, int last, Lease but) {
        for (Lease lease : leases) {
            if (lease != but && lease.flat == flat) {
                for (int day = lease.from; day <= agreed(lease); day++) {
                    if (in(day, from, last)) {
                        return true;
                    }
                }
            }
        }
        return false;
    }

    public int lease(int flat, int from, int to, int heads, int rent, int way) {
        flatOf(flat);
        let(in(from, 0, 1824) && (to == NONE || in(to, from, 1824)));
        let(in(heads, 1, 6) && in(rent, 1, 100000) && in(way, 0, 2));
        state(leases.size() < 12);
        if (isMeeting(flat, from, to == NONE ? 1824 : to, null)) {
            return CANNOT;
        }
        Lease lease = new Lease();
        lease.number = leases.size();
        lease.flat = flat;
        lease.from = from;
        lease.to = to;
        lease.way = way;
        lease.base = month(from);
        lease.heads.put(from, heads);
        lease.rents.put(from, rent);
        leases.add(lease);
        return done(lease.number, "lease", flat, from, to, heads, rent, way);
    }

    public int advance(int lease, int coins) {
        Lease l = leaseOf(lease);
        let(in(coins, 0, 100000));
        int before = l.advance;
        l.advance = coins;
        return done(before, "advance", lease, coins);
    }

    public int heads(int lease, int day, int heads) {
        Lease l = leaseOf(lease);
        let(in(day, l.from, 1824) && in(heads, 1, 6));
        int before = value(l.heads, day, 0);
        l.heads.put(day, heads);
        return done(before, "heads", lease, day, heads);
    }

    public int step(int lease, int day, int rent) {
        Lease l = leaseOf(lease);
        let(in(day, l.from, 1824) && in(rent, 1, 100000));
        int before = value(l.rents, day, 0);
        l.rents.put(day, rent);
        return done(before, "step", lease, day, rent);
    }

    public int freeMonth(int lease, int month) {
        Lease l = leaseOf(lease);
        let(in(month, 0, 59));
        if (!l.freeMonths.remove(month)) {
            l.freeMonths.add(month);
        }
        return done(l.freeMonths.contains(month) ? 1 : 0, "freeMonth", lease, month);
    }

    public int option(int lease, int days) {
        Lease l = leaseOf(lease);
        let(in(days, 1, 1000));
        int to = Math.min(1824, l.to + days);
        if (l.to == NONE || l.notice != NONE || isMeeting(l.flat, l.from, to, l)) {
            return CANNOT;
        }
        l.to = to;
        return done(to, "option", lease, days);
    }

    public int notice(int lease, int day) {
        Lease l = leaseOf(lease);
        let(in(day, 0, 1824));
        int month = month(day);
        int end = day <= first(month) + 2 ? first(month + 3) - 1 : first(month + 4) - 1;
        if (!in(day, l.from, last(l)) || l.notice != NONE || end >= (l.to == NONE ? 1824 : l.to)) {
            return CANNOT;
        }
        l.notice = end;
        return done(end, "notice", lease, day);
    }

    public int index(int month, int value) {
        let(in(month, 0, 59) && in(value, 1, 10000));
        int before = indexes.getOrDefault(month, NONE);
        indexes.put(month, value);
        return done(before, "index", month, value);
    }

    public int clause(int lease, int bar, int top) {
        Lease l = leaseOf(lease);
        let(in(bar, 0, 50) && in(top, 0, 50));
        l.bar = bar;
        l.top = top;
        return done(l.rents.size(), "clause", lease, bar, top);
    }

    public int adjust(int lease, int month) {
        Lease l = leaseOf(lease);
        let(in(month, 0, 59));
        state(l.bar != NONE);
        Integer value = indexes.get(month);
        Integer base = indexes.get(l.base);
        int day = first(month);
        if (value == null || base == null || !in(day, l.from + 1, last(l)) || month <= l.base) {
            return CANNOT;
        }
        if (value * 100 < base * (100 + l.bar) || value <= base) {
            return CANNOT;
        }
        long rent = value(l.rents, day - 1, 0);
        long whole = rent * value / base;
        long half = rent * value % base * 2 >= base ? 1 : 0;
        long then = Math.min(100000, Math.min(whole + half, rent * (100 + l.top) / 100));
        l.rents.put(day, (int) then);
        l.base = month;
        return done((int) then, "adjust", lease, month);
    }

    public int compare(int house, int coins) {
        let(in(house, 0, 2) && in(coins, 1, 1000));
        state(rowsOf(house).size() < 9);
        rows.add(new int[] {house, coins});
        return done(rowsOf(house).size(), "compare", house, coins);
    }

    private List<Integer> rowsOf(int house) {
        List<Integer> list = new ArrayList<>();
        for (int[] row : rows) {
            if (row[0] == house) {
                list.add(row[1]);
            }
        }
        list.sort(null);
        return list;
    }

    public int raise(int lease, int month) {
        Lease l = leaseOf(lease);
        let(in(month, 0, 59));
        List<Integer> list = rowsOf(flats.get(l.flat).house);
        int day = first(month);
        if (list.size() < 3 || !in(day, l.from + 1, last(l))) {
            return CANNOT;
        }
        int middle = list.size() % 2 == 1 ? list.get(list.size() / 2) : list.get(list.size() / 2 - 1);
        int rent = middle * value(flats.get(l.flat).areas, day, 0);
        rent = Math.min(rent, value(l.rents, Math.max(l.from, day - 1095), 0) * 120 / 100);
        rent = Math.min(rent, 100000);
        if (rent <= value(l.rents, day - 1, 0)) {
            return CANNOT;
        }
        l.rents.put(day, rent);
        return done(rent, "raise", lease, month);
    }

    public int defect(int lease, int from, int to, int percent) {
        Lease l = leaseOf(lease);
        let(in(from, 0, 1824) && in(to, from, 1824) && in(percent, 1, 100));
        state(l.defects.size() < 9);
        l.defects.add(new int[] {from, to, percent});
        return done(l.defects.size(), "defect", lease, from, to, percent);
    }

    public int pay(int lease, int day, int coins, int word) {
        Lease l = leaseOf(lease);
        let(in(day, l.from, 1824) && in(coins, 1, 100000) && in(word, -1, 59));
        l.payments.add(new int[] {day, coins, word});
        return done(l.payments.size(), "pay", lease, day, coins, word);
    }

    public int refund(int lease, int day, int coins) {
        Lease l = leaseOf(lease);
        let(in(day, 0, 1824) && in(coins, 1, 100000));
        if (account(l, last(l)).credit[day] < coins) {
            return CANNOT;
        }
        l.refunds.add(new int[] {day, coins});
        done(0, "refund", lease, day, coins);
        return account(l, last(l)).credit[day];
    }

    public int rate(int day, int rate) {
        let(in(day, 0, 1824) && in(rate, 0, 5000));
        int before = value(rates, day, 0);
        rates.put(day, rate);
        return done(before, "rate", day, rate);
    }

    public int remind(int lease, int day) {
        Lease l = leaseOf(lease);
        let(in(day, 0, 1824));
        for (int other : l.reminders) {
            if (Math.abs(other - day) < 14) {
                return CANNOT;
            }
        }
        if (late(account(l, last(l)), day) == 0) {
            return CANNOT;
        }
        l.reminders.add(day);
        return done(l.reminders.size(), "remind", lease, day);
    }

    public int terminate(int lease, int day) {
        Lease l = leaseOf(lease);
        let(in(day, 0, 1824));
        if (!isPressing(l, day) || !in(day, l.from, last(l)) || (l.terminated != NONE && !isCured(l))) {
            return CANNOT;
        }
        l.terminated = day;
        return done(day + 29, "terminate", lease, day);
    }

    public int out(int lease) {
        Lease l = leaseOf(lease);
        if (l.terminated == NONE || isCured(l) || last(l) < l.terminated + 29) {
            return CANNOT;
        }
        l.to = last(l);
        return done(l.to, "out", lease);
    }

    public int read(int flat, int day, int value) {
        Flat f = flatOf(flat);
        let(in(day, 0, 1824) && in(value, 0, 100000));
        for (Map.Entry<Integer, Integer> other : f.readings.entrySet()) {
            boolean isLess = other.getKey() < day && other.getValue() > value;
            boolean isMore = other.getKey() > day && other.getValue() < value;
            if (isLess || isMore) {
                return CANNOT;
            }
        }
        f.readings.put(day, value);
        return done(f.readings.size(), "read", flat, day, value);
    }

    public int bill(int house, int key, int from, int to, int coins, int laid) {
        let(in(house, 0, 2) && in(key, 0, 4) && in(from, 0, 1824) && in(to, from, 1824));
        let(in(coins, 1, 100000) && in(laid, 0, 100));
        state(bills.size() < 12);
        bills.add(new int[] {house, key, from, to, coins, laid});
        return done(bills.size() - 1, "bill", house, key, from, to, coins, laid);
    }

    public int settle(int house, int year, int day) {
        let(in(house, 0, 2) && in(year, 0, 4) && in(day, 0, 1824));
        int[] amounts = new int[leases.size()];
        for (Lease l : leases) {
            if (flats.get(l.flat).house != house) {
                continue;
            }
            for (int b = 0; b < bills.size(); b++) {
                if (bills.get(b)[0] == house && bills.get(b)[3] / 365 == year) {
                    amounts[l.number] += share(b, l.number);
                }
            }
            for (int month = year * 12; month < year * 12 + 12; month++) {
                amounts[l.number] -= dueOf(l, last(l), month, 1);
            }
            amounts[l.number] -= settled(l.number, year);
        }
        int made = 0;
        for (Lease l : leases) {
            if (amounts[l.number] != 0) {
                l.settlements.add(new int[] {year, day, amounts[l.number]});
                made++;
            }
        }
        return done(made, "settle", house, year, day);
    }

    private static int lastMove(Lease l) {
        return l.moves.isEmpty() ? NONE : l.moves.get(l.moves.size() - 1)[0];
    }

    private static int held(Lease l, int day) {
        int sum = 0;
        for (int[] move : l.moves) {
            sum += move[0] <= day ? move[1] : 0;
        }
        return sum;
    }

    public int deposit(int lease, int day, int coins) {
        Lease l = leaseOf(lease);
        let(in(day, 0, 1824) && in(coins, 1, 100000));
        if (day < lastMove(l)) {
            return CANNOT;
        }
        l.moves.add(new int[] {day, coins});
        return done(held(l, day), "deposit", lease, day, coins);
    }

    public int use(int lease, int day, int coins) {
        Lease l = leaseOf(lease);
        let(in(day, l.from, 1824) && in(coins, 1, 100000));
        if (day < lastMove(l) || held(l, day) < coins) {
            return CANNOT;
        }
        l.moves.add(new int[] {day, -coins});
        l.used.add(new int[] {day, coins, NONE});
        return done(held(l, day), "use", lease, day, coins);
    }

    public int giveBack(int lease, int day) {
        Lease l = leaseOf(lease);
        let(in(day, 0, 1824));
        if (day < lastMove(l) || day <= last(l)) {
            return CANNOT;
        }
        int given = held(l, day) + fruits(l, day);
        l.moves.add(new int[] {day, -held(l, day)});
        l.givenBack = day;
        return done(given, "giveBack", lease, day);
    }

    private int fruits(Lease l, int by) {
        long units = 0;
        for (int day = l.givenBack + 1; day <= by; day++) {
            units += (long) held(l, day - 1) * value(rates, day, 0);
        }
        return (int) (units / 3650000);
    }

    public int work(int flat, int from, int to, int worth) {
        flatOf(flat);
        let(in(from, 0, 1824) && in(to, from, 1824) && in(worth, 1, 1000));
        state(works.size() < 10);
        works.add(new int[] {flat, from, to, worth});
        return done(works.size() - 1, "work", flat, from, to, worth);
    }

    public int undo() {
        state(!told.isEmpty());
        List<Object[]> before = new ArrayList<>(told.subList(0, told.size() - 1));
        told.clear();
        flats.clear();
        leases.clear();
        rows.clear();
        bills.clear();
        works.clear();
        indexes.clear();
        rates.clear();
        remembered.clear();
        for (Object[] call : before) {
            tell((String) call[0], (int[]) call[1]);
        }
        return told.size();
    }

    private void tell(String name, int[] args) {
        for (Method method : NaiveRoll.class.getDeclaredMethods()) {
            if (method.getName().equals(name) && java.lang.reflect.Modifier.isPublic(method.getModifiers())) {
                Object[] boxed = new Object[args.length];
                for (int at = 0; at < args.length; at++) {
                    boxed[at] = args[at];
                }
                try {
                    method.invoke(this, boxed);
                } catch (ReflectiveOperationException thrown) {
                    throw new IllegalStateException("telling " + name + " again failed", thrown);
                }
            }
        }
    }

    public int knock() {
        refused++;
        return refused;
    }

    // ---- last days and accounts

    private static int agreed(Lease l) {
        int last = l.to == NONE ? 1824 : l.to;
        return l.notice == NONE ? last : Math.min(last, l.notice);
    }

    private int last(Lease l) {
        return l.terminated == NONE || isCured(l) ? agreed(l) : Math.min(agreed(l), l.terminated + 29);
    }

    private boolean isCured(Lease l) {
        Account account = account(l, agreed(l));
        for (int day = l.terminated; l.terminated != NONE && day <= l.terminated + 29 && day <= 1824; day++) {
            int open = 0;
            for (int d = 0; d < account.debts.size(); d++) {
                Debt debt = account.debts.get(d);
                open += debt.kind < 2 && debt.day <= l.terminated ? account.openBehind.get(d)[day] : 0;
            }
            if (open == 0) {
                return true;
            }
        }
        return false;
    }

    private int dueOf(Lease l, int last, int month, int kind) {
        int length = LENGTHS[month % 12];
        int days = 0;
        long hundredths = 0;
        for (int day = first(month); day < first(month) + length; day++) {
            if (in(day, l.from, last)) {
                int off = 0;
                for (int[] defect : l.defects) {
                    off += in(day, defect[0], defect[1]) ? defect[2] : 0;
                }
                days++;
                hundredths += (long) value(l.rents, day, 0) * (100 - Math.min(off, 100));
            }
        }
        long above;
        long below;
        if (kind == 1) {
            above = (long) l.advance * days;
            below = length;
        } else if (l.freeMonths.contains(month)) {
            return 0;
        } else if (days == length || l.way == 0) {
            above = hundredths;
            below = 100L * length;
        } else {
            above = l.way == 1 ? hundredths * 12 : hundredths;
            below = l.way == 1 ? 100L * 365 : 100L * 30;
        }
        return (int) (above / below + (above % below * 2 >= below ? 1 : 0));
    }

    private static void debt(Account account, int day, int kind, int month, int coins) {
        if (coins > 0) {
            Debt debt = new Debt();
            debt.day = day;
            debt.kind = kind;
            debt.month = month;
            debt.told = account.debts.size();
            debt.coins = coins;
            debt.open = coins;
            account.debts.add(debt);
        }
    }

    private static int order(Debt one, Debt two) {
        int[] first = {one.kind == 3 ? 0 : 1, one.day, one.kind, one.month, one.told};
        int[] second = {two.kind == 3 ? 0 : 1, two.day, two.kind, two.month, two.told};
        return Arrays.compare(first, second);
    }

    private Account account(Lease l, int last) {
        String key = "account " + l.number + " " + last;
        if (remembered.get(key) instanceof Account) {
            return (Account) remembered.get(key);
        }
        Account account = new Account();
        List<int[]> paid = new ArrayList<>(l.payments);
        paid.addAll(l.used);
        for (int month = 0; month < 60; month++) {
            debt(account, Math.max(first(month) + 2, l.from), 0, month, dueOf(l, last, month, 0));
            debt(account, Math.max(first(month) + 2, l.from), 1, month, dueOf(l, last, month, 1));
        }
        for (int[] settlement : l.settlements) {
            debt(account, settlement[1], 2, 0, settlement[2]);
            if (settlement[2] < 0) {
                paid.add(new int[] {settlement[1], -settlement[2], NONE});
            }
        }
        for (int day : l.reminders) {
            debt(account, day, 3, 0, 5);
        }
        for (int[] refund : l.refunds) {
            debt(account, refund[0], 4, 0, refund[1]);
        }
        account.debts.sort(NaiveRoll::order);
        paid.sort((a, b) -> Arrays.compare(sortKey(a), sortKey(b)));
        for (int d = 0; d < account.debts.size(); d++) {
            account.openBehind.add(new int[1825]);
        }
        bookDays(account, paid);
        remembered.put(key, account);
        return account;
    }

    private static int[] sortKey(int[] payment) {
        return new int[] {payment[0], payment[2] == NONE ? 1000 : payment[2], payment[1]};
    }

    private static void bookDays(Account account, List<int[]> paid) {
        int credit = 0;
        for (int day = 0; day < 1825; day++) {
            credit = coverAll(account, day, credit);
            for (int[] payment : paid) {
                if (payment[0] == day) {
                    account.paid += payment[1];
                    int left = payment[1];
                    for (Debt debt : account.debts) {
                        boolean isMeant = debt.kind == 0 && debt.month == payment[2] && debt.day <= day;
                        int part = isMeant ? Math.min(left, debt.open) : 0;
                        debt.open -= part;
                        left -= part;
                    }
                    credit += coverAll(account, day, left);
                }
            }
            account.credit[day] = credit;
            for (int d = 0; d < account.debts.size(); d++) {
                account.openBehind.get(d)[day] = account.debts.get(d).open;
            }
        }
    }

    private static int coverAll(Account account, int day, int coins) {
        int left = coins;
        for (Debt debt : account.debts) {
            int part = debt.day <= day ? Math.min(left, debt.open) : 0;
            debt.open -= part;
            left -= part;
        }
        return left;
    }

    private static int late(Account account, int day) {
        int sum = 0;
        for (int d = 0; d < account.debts.size(); d++) {
            Debt debt = account.debts.get(d);
            sum += debt.kind <= 2 && debt.day < day ? account.openBehind.get(d)[day] : 0;
        }
        return sum;
    }

    private boolean isPressing(Lease l, int day) {
        Account account = account(l, agreed(l));
        int open = 0;
        for (int d = 0; d < account.debts.size(); d++) {
            Debt debt = account.debts.get(d);
            open += debt.kind <= 1 && debt.day <= day ? account.openBehind.get(d)[day] : 0;
        }
        return open > 0 && open >= 2 * value(l.rents, day, 0);
    }

    // ---- what is asked of leases

    public int area(int flat, int day) {
        Flat f = flatOf(flat);
        let(in(day, 0, 1824));
        return value(f.areas, day, 0);
    }

    private int tenantOn(int flat, int day) {
        for (Lease l : leases) {
            if (l.flat == flat && in(day, l.from, lastOnce(l))) {
                return l.number;
            }
        }
        return NONE;
    }

    private int lastOnce(Lease l) {
        String key = "last " + l.number;
        if (!(remembered.get(key) instanceof Integer)) {
            remembered.put(key, last(l));
        }
        return (Integer) remembered.get(key);
    }

    public int tenant(int flat, int day) {
        flatOf(flat);
        let(in(day, 0, 1824));
        return tenantOn(flat, day);
    }

    public int ofLease(int lease, int what) {
        Lease l = leaseOf(lease);
        let(in(what, 0, 11));
        int[] all = {l.from, l.to, last(l), l.notice, l.terminated, isCured(l) ? 1 : 0, l.rents.size(),
            l.defects.size(), l.reminders.size(), l.base, l.freeMonths.size(), l.settlements.size()};
        return all[what];
    }

    public int rentOf(int lease, int day) {
        Lease l = leaseOf(lease);
        let(in(day, 0, 1824));
        return value(l.rents, day, 0);
    }

    public int due(int lease, int month, int kind) {
        Lease l = leaseOf(lease);
        let(in(month, 0, 59) && in(kind, 0, 1));
        return dueOf(l, last(l), month, kind);
    }

    public int owed(int lease, int day, int what) {
        Lease l = leaseOf(lease);
        let(in(day, 0, 1824) && in(what, 0, 4));
        Account account = account(l, last(l));
        int sum = 0;
        int ofRent = 0;
        int count = 0;
        for (int d = 0; d < account.debts.size(); d++) {
            Debt debt = account.debts.get(d);
            int open = debt.day <= day ? account.openBehind.get(d)[day] : 0;
            sum += open;
            ofRent += debt.kind <= 1 ? open : 0;
            count += open > 0 ? 1 : 0;
        }
        int[] all = {sum, account.credit[day], ofRent, count, isPressing(l, day) ? 1 : 0};
        return all[what];
    }

    public int open(int lease, int month, int day) {
        Lease l = leaseOf(lease);
        let(in(month, 0, 59) && in(day, 0, 1824));
        Account account = account(l, last(l));
        for (int d = 0; d < account.debts.size(); d++) {
            Debt debt = account.debts.get(d);
            if (debt.kind == 0 && debt.month == month && debt.day <= day) {
                return account.openBehind.get(d)[day];
            }
        }
        return 0;
    }

    private long units(Lease l, int from, int to) {
        Account account = account(l, last(l));
        long units = 0;
        for (int day = from; day <= to; day++) {
            units += (long) late(account, day) * value(rates, day, 0);
        }
        return units;
    }

    public String interest(int lease, int from, int to, boolean isUnits) {
        Lease l = leaseOf(lease);
        let(in(from, 0, 1824) && in(to, from, 1824));
        return Long.toString(isUnits ? units(l, from, to) : units(l, from, to) / 3650000);
    }

    public int pressing(int lease, int by) {
        Lease l = leaseOf(lease);
        let(in(by, 0, 1824));
        for (int day = l.from; day <= last(l) && day <= by; day++) {
            if (isPressing(l, day)) {
                return day;
            }
        }
        return NONE;
    }

    public String text(int lease) {
        Lease l = leaseOf(lease);
        return "flat " + l.flat + " from " + l.from + " to " + l.to + " heads " + l.heads.get(l.from)
            + " rent " + l.rents.get(l.from) + " way " + l.way;
    }

    public int spoiled(int lease, int at, int sign) {
        char[] signs = text(lease).toCharArray();
        if (at < 0 || at >= signs.length) {
            throw new IndexOutOfBoundsException();
        }
        let(in(sign, 0, 11));
        signs[at] = "0123456789- ".charAt(sign);
        return fault(new String(signs).trim().split(" +"));
    }

    private int fault(String[] words) {
        String[] names = {"flat", "from", "to", "heads", "rent", "way"};
        int[] numbers = new int[6];
        for (int at = 0; at < 12; at++) {
            if (at >= words.length) {
                return at;
            }
            if (at % 2 == 0 ? !words[at].equals(names[at / 2]) : !words[at].matches("-?[0-9]{1,6}")) {
                return at;
            }
            if (at % 2 == 1) {
                numbers[at / 2] = Integer.parseInt(words[at]);
                if (!isLet(at / 2, numbers)) {
                    return at;
                }
            }
        }
        return words.length > 12 ? 12 : NONE;
    }

    private boolean isLet(int which, int[] numbers) {
        boolean[] all = {in(numbers[0], 0, flats.size() - 1), in(numbers[1], 0, 1824),
            numbers[2] == NONE || in(numbers[2], numbers[1], 1824), in(numbers[3], 1, 6),
            in(numbers[4], 1, 100000), in(numbers[5], 0, 2)};
        return all[which];
    }

    // ---- what is asked of costs

    private static int read(Flat f, int day) {
        Map.Entry<Integer, Integer> earlier = f.readings.floorEntry(day);
        Map.Entry<Integer, Integer> later = f.readings.ceilingEntry(day);
        if (earlier == null || later == null) {
            return earlier != null ? earlier.getValue() : later != null ? later.getValue() : 0;
        }
        int days = later.getKey() - earlier.getKey();
        int more = later.getValue() - earlier.getValue();
        return days == 0 ? earlier.getValue() : earlier.getValue() + more * (day - earlier.getKey()) / days;
    }

    public int reading(int flat, int day) {
        Flat f = flatOf(flat);
        let(in(day, 0, 1824));
        return read(f, day);
    }

    /** The weights of the flats of the house on a day, then their bearers. */
    private List<Integer> weights(int house, int key, int day) {
        List<Integer> weights = new ArrayList<>();
        List<Integer> bearers = new ArrayList<>();
        for (int f = 0; f < flats.size(); f++) {
            if (flats.get(f).house == house) {
                int lease = tenantOn(f, day);
                int heads = lease == NONE ? 0 : value(leases.get(lease).heads, day, 0);
                weights.add(key == 0 ? value(flats.get(f).areas, day, 0) : key == 1 ? heads : 1);
                bearers.add(lease);
            }
        }
        weights.addAll(bearers);
        return weights;
    }

    private void addByDays(long[] exact, int[] bill, int key, long coins) {
        long span = bill[3] - bill[2] + 1;
        int day = bill[2];
        while (day <= bill[3]) {
            List<Integer> now = weights(bill[0], key, day);
            int next = day + 1;
            while (next <= bill[3] && weights(bill[0], key, next).equals(now)) {
                next++;
            }
            int n = now.size() / 2;
            long sum = 0;
            for (int f = 0; f < n; f++) {
                sum += now.get(f);
            }
            if (sum == 0) {
                exact[12] += coins * (next - day) * 1000000 / span;
            }
            for (int f = 0; f < n && sum > 0; f++) {
                int bearer = now.get(n + f) == NONE ? 12 : now.get(n + f);
                exact[bearer] += coins * (next - day) * now.get(f) * 1000000 / (span * sum);
            }
            day = next;
        }
    }

    private void addByMeter(long[] exact, int[] bill, long coins) {
        long[] weights = new long[13];
        long sum = 0;
        for (int f = 0; f < flats.size(); f++) {
            for (int day = bill[2]; flats.get(f).house == bill[0] && day <= bill[3]; day++) {
                int weight = day == 1824 ? 0 : read(flats.get(f), day + 1) - read(flats.get(f), day);
                int lease = tenantOn(f, day);
                weights[lease == NONE ? 12 : lease] += weight;
                sum += weight;
            }
        }
        for (int bearer = 0; bearer < 13; bearer++) {
            long all = bearer == 12 ? coins * 1000000 : 0;
            exact[bearer] += sum == 0 ? all : coins * weights[bearer] * 1000000 / sum;
        }
    }

    private long[] exact(int number) {
        String key = "bill " + number;
        if (remembered.get(key) instanceof long[]) {
            return (long[]) remembered.get(key);
        }
        int[] bill = bills.get(number);
        long laid = bill[4] * bill[5] / 100;
        long[] exact = new long[13];
        if (bill[1] <= 2) {
            addByDays(exact, bill, bill[1], laid);
        } else if (bill[1] == 3) {
            addByMeter(exact, bill, laid);
        } else {
            addByMeter(exact, bill, laid / 2);
            addByDays(exact, bill, 0, laid - laid / 2);
        }
        remembered.put(key, exact);
        return exact;
    }

    private int[] shares(int number) {
        int[] bill = bills.get(number);
        int laid = bill[4] * bill[5] / 100;
        long[] exact = exact(number);
        int[] shares = new int[13];
        int left = laid;
        List<Integer> bearers = new ArrayList<>();
        for (int bearer = 0; bearer < 13; bearer++) {
            shares[bearer] = (int) (exact[bearer] / 1000000);
            left -= shares[bearer];
            if (exact[bearer] > 0) {
                bearers.add(bearer);
            }
        }
        bearers.sort((a, b) -> Long.compare(exact[b] % 1000000, exact[a] % 1000000));
        for (int at = 0; at < left; at++) {
            shares[bearers.get(at)]++;
        }
        shares[12] += bill[4] - laid;
        return shares;
    }

    private void needBearer(int bill, int lease) {
        if (!in(bill, 0, bills.size() - 1) || !in(lease, NONE, leases.size() - 1)) {
            throw new IndexOutOfBoundsException();
        }
    }

    public int share(int bill, int lease) {
        needBearer(bill, lease);
        return shares(bill)[lease == NONE ? 12 : lease];
    }

    public String exactShare(int bill, int lease) {
        needBearer(bill, lease);
        long millionths = exact(bill)[lease == NONE ? 12 : lease];
        return String.format("%d.%06d", millionths / 1000000, millionths % 1000000);
    }

    public int settled(int lease, int year) {
        Lease l = leaseOf(lease);
        let(in(year, 0, 4));
        int sum = 0;
        for (int[] settlement : l.settlements) {
            sum += settlement[0] == year ? settlement[2] : 0;
        }
        return sum;
    }

    public int depositOf(int lease, int day, int what) {
        Lease l = leaseOf(lease);
        let(in(day, 0, 1824) && in(what, 0, 1));
        return what == 0 ? held(l, day) : lastMove(l) > day ? 0 : fruits(l, day);
    }

    public String free(int flat) {
        flatOf(flat);
        StringBuilder spans = new StringBuilder();
        for (int day = 0; day < 1825; day++) {
            boolean isEmpty = tenantOn(flat, day) == NONE;
            if (isEmpty && (day == 0 || tenantOn(flat, day - 1) != NONE)) {
                spans.append(spans.length() == 0 ? "" : " ").append(day).append('-');
            }
            if (isEmpty && (day == 1824 || tenantOn(flat, day + 1) != NONE)) {
                spans.append(day);
            }
        }
        return spans.toString();
    }

    public String best(int flat) {
        flatOf(flat);
        List<Integer> best = new ArrayList<>();
        int bestWorth = 0;
        for (int set = 1; set < 1 << works.size(); set++) {
            List<Integer> list = new ArrayList<>();
            int worth = 0;
            for (int w = 0; w < works.size(); w++) {
                if ((set >> w & 1) == 1) {
                    list.add(w);
                    worth += works.get(w)[3];
                }
            }
            if (isPossible(flat, list) && isBetter(list, worth, best, bestWorth)) {
                best = list;
                bestWorth = worth;
            }
        }
        return best.toString().replaceAll("[\\[\\],]", "");
    }

    private boolean isPossible(int flat, List<Integer> list) {
        TreeSet<Integer> days = new TreeSet<>();
        for (int w : list) {
            if (works.get(w)[0] != flat) {
                return false;
            }
            for (int day = works.get(w)[1]; day <= works.get(w)[2]; day++) {
                if (tenantOn(flat, day) != NONE || !days.add(day)) {
                    return false;
                }
            }
        }
        return true;
    }

    private static boolean isBetter(List<Integer> list, int worth, List<Integer> best, int bestWorth) {
        if (worth != bestWorth) {
            return worth > bestWorth;
        }
        if (list.size() != best.size()) {
            return list.size() < best.size();
        }
        for (int at = 0; at < list.size(); at++) {
            if (!list.get(at).equals(best.get(at))) {
                return list.get(at) < best.get(at);
            }
        }
        return false;
    }

    public int owner(int house, int year, int what) {
        let(in(house, 0, 2) && in(year, 0, 4) && in(what, 0, 5));
        int sum = 0;
        for (Lease l : leases) {
            for (int month = year * 12; flats.get(l.flat).house == house && month < year * 12 + 12; month++) {
                sum += what < 2 ? dueOf(l, last(l), month, what) : 0;
            }
            for (int[] payment : l.payments) {
                boolean isIn = flats.get(l.flat).house == house && payment[0] / 365 == year;
                sum += what == 2 && isIn ? payment[1] : 0;
            }
        }
        for (int b = 0; b < bills.size(); b++) {
            if (bills.get(b)[0] == house && bills.get(b)[3] / 365 == year) {
                sum += what == 3 ? bills.get(b)[4] : what == 5 ? share(b, NONE) : 0;
                for (int l = 0; l < leases.size(); l++) {
                    sum += what == 4 ? share(b, l) : 0;
                }
            }
        }
        return sum;
    }

    // ---- the whole

    public int count(int what) {
        let(in(what, 0, 8));
        int paid = 0;
        for (Lease l : leases) {
            paid += l.payments.size();
        }
        int[] all = {flats.size(), leases.size(), bills.size(), paid, works.size(), indexes.size(),
            rates.size(), told.size(), refused};
        return all[what];
    }

    public boolean isSound() {
        boolean isSound = true;
        for (int b = 0; b < bills.size(); b++) {
            int sum = 0;
            for (int bearer = 0; bearer < 13; bearer++) {
                int[] bill = bills.get(b);
                long exact = exact(b)[bearer] + (bearer == 12 ? (bill[4] - bill[4] * bill[5] / 100) * 1000000L : 0);
                sum += shares(b)[bearer];
                isSound &= Math.abs(shares(b)[bearer] * 1000000L - exact) <= 1000000;
            }
            isSound &= sum == bills.get(b)[4];
        }
        for (Lease l : leases) {
            Account account = account(l, last(l));
            long covered = account.credit[1824];
            for (Debt debt : account.debts) {
                covered += debt.coins - debt.open;
                isSound &= in(debt.open, 0, debt.coins);
            }
            isSound &= covered == account.paid && !isMeeting(l.flat, l.from, agreed(l), l);
            isSound &= units(l, 0, 900) + units(l, 901, 1824) == units(l, 0, 1824);
            isSound &= fault(text(l.number).split(" ")) == NONE;
        }
        return isSound;
    }

    public long digest() {
        long d = 6508;
        for (int what = 0; what < 9; what++) {
            d = d * 31 + count(what);
        }
        for (int f = 0; f < flats.size(); f++) {
            d = d * 31 + area(f, 0);
            d = d * 31 + reading(f, 0);
            d = d * 31 + area(f, 1824);
            d = d * 31 + reading(f, 1824);
            d = d * 31 + free(f).length();
            d = d * 31 + best(f).length();
        }
        for (int l = 0; l < leases.size(); l++) {
            for (int what = 0; what < 12; what++) {
                d = d * 31 + ofLease(l, what);
            }
            for (int day : new int[] {700, 1824}) {
                d = d * 31 + rentOf(l, day);
                for (int what = 0; what < 4; what++) {
                    d = d * 31 + owed(l, day, what);
                }
            }
            d = d * 31 + interest(l, 0, 1824, true).length();
            for (int year = 0; year < 5; year++) {
                d = d * 31 + settled(l, year);
            }
            d = d * 31 + depositOf(l, 1824, 0);
            d = d * 31 + depositOf(l, 1824, 1);
            d = d * 31 + text(l).length();
        }
        for (int b = 0; b < bills.size(); b++) {
            d = d * 31 + share(b, NONE);
            for (int l = 0; l < leases.size(); l++) {
                d = d * 31 + share(b, l);
            }
        }
        return d * 31 + (isSound() ? 1 : 0);
    }
}

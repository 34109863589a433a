import java.util.Arrays;

/** A house of many tenants: who rents what, what is due and paid, who bears which costs. */
public final class Rentroll {
    private static final int NONE = -1;
    private static final int CANNOT = -9;
    private static final int MOST_CALLS = 512;
    private static final int MOST_CHANGES = 16 * (MOST_CALLS + 1);
    private static final int DAYS = 1825;
    private static final int LAST_DAY = DAYS - 1;
    private static final int YEARS = 5;
    private static final int YEAR_DAYS = 365;
    private static final int YEAR_MONTHS = 12;
    private static final int MONTHS = YEARS * YEAR_MONTHS;
    private static final int HOUSES = 3;
    private static final int MOST_FLATS = 8;
    private static final int MOST_LEASES = 12;
    private static final int MOST_BILLS = 12;
    private static final int MOST_WORKS = 10;
    private static final int MOST_EACH = 9;
    private static final int MOST_COINS = 100000;
    private static final int GRACE = 29;
    private static final int BETWEEN_REMINDERS = 14;
    private static final int REMINDER_FEE = 5;
    private static final int LOOK_BACK = 1095;
    private static final int OWNER = MOST_LEASES;
    private static final int BEARERS = MOST_LEASES + 1;
    private static final long MILLION = 1000000L;
    private static final long UNITS_OF_A_COIN = 3650000L;

    // KINDS of debts
    private static final int RENT_KIND = 0;
    private static final int ADVANCE_KIND = 1;
    private static final int SETTLEMENT_KIND = 2;
    private static final int FEE_KIND = 3;
    private static final int REFUND_KIND = 4;

    // KEYS of bills; the fourth one is mixed of meter and area
    private static final int AREA_KEY = 0;
    private static final int HEADS_KEY = 1;
    private static final int FLATS_KEY = 2;
    private static final int METER_KEY = 3;
    private static final int MIXED_KEY = 4;

    // columns of the tables; FROM and TO stand at the same place in all that have a span
    private static final int HOUSE = 0;
    private static final int FLAT = 0;
    private static final int LEASE = 0;
    private static final int WHOSE = 0;
    private static final int FROM = 1;
    private static final int TO = 2;
    private static final int WAY = 3;
    private static final int ADVANCE = 4;
    private static final int NOTICE = 5;
    private static final int BAR = 6;
    private static final int TOP = 7;
    private static final int BASE = 8;
    private static final int TERMINATED = 9;
    private static final int GIVEN_BACK = 10;
    private static final int LEASE_COLUMNS = 11;
    private static final int PERCENT = 3;
    private static final int WORTH = 3;
    private static final int KEY = 3;
    private static final int BILL_COINS = 4;
    private static final int LAID = 5;
    private static final int BILL_COLUMNS = 6;
    private static final int ROW_COINS = 1;
    private static final int DAY = 1;
    private static final int VALUE = 2;
    private static final int COINS = 2;
    private static final int MARK = 3;

    private static final int[] STARTS = {0, 31, 59, 90, 120, 151, 181, 212, 243, 273, 304, 334, 365};

    private final Journal journal;
    private final Roll roll;
    private final Books books;
    private final Dues dues;
    private final Ledger ledger;
    private final Costs costs;
    private final Planner planner;
    private final Script script;
    private final int[] amounts;
    private int refused;

    public Rentroll() {
        journal = new Journal();
        roll = new Roll(journal);
        books = new Books(journal);
        dues = new Dues(journal, roll);
        ledger = new Ledger(journal, roll, books, dues);
        costs = new Costs(journal, roll);
        planner = new Planner(journal, roll);
        script = new Script(roll);
        amounts = new int[MOST_LEASES];
    }

    // ---- what is done: days, flats, leases

    public int flat(int house, int area) throws IllegalArgumentException, IllegalStateException {
        need(isBetween(house, 0, HOUSES - 1) && isBetween(area, 1, 500));
        needState(!roll.flats.isFull());
        int flat = roll.flats.append(house, NONE, NONE, NONE);
        roll.areas.tell(flat, 0, area);
        return renewed(journal.kept(flat));
    }

    public int shift(int from, int to, int area, int day)
            throws IndexOutOfBoundsException, IllegalArgumentException {
        needFlat(from);
        needFlat(to);
        need(from != to && roll.houseOfFlat(from) == roll.houseOfFlat(to));
        need(isBetween(area, 1, 500) && isDay(day));
        int less = roll.areas.on(from, day) - area;
        boolean isLate = roll.areas.nextChange(from, day) < DAYS || roll.areas.nextChange(to, day) < DAYS;
        if (isLate || less < 1) {
            return CANNOT;
        }
        int more = roll.areas.on(to, day) + area;
        roll.areas.tell(from, day, less);
        roll.areas.tell(to, day, more);
        return renewed(journal.kept(less));
    }

    public int lease(int flat, int from, int to, int heads, int rent, int way)
            throws IndexOutOfBoundsException, IllegalArgumentException, IllegalStateException {
        needFlat(flat);
        need(isDay(from) && (to == NONE || isBetween(to, from, LAST_DAY)));
        need(isBetween(heads, 1, 6) && isBetween(rent, 1, MOST_COINS) && isBetween(way, 0, 2));
        needState(!roll.leases.isFull());
        if (roll.isMeeting(NONE, flat, from, to == NONE ? LAST_DAY : to)) {
            return CANNOT;
        }
        int lease = roll.leases.append(flat, from, to, way);
        roll.leases.put(lease, ADVANCE, 0);
        roll.leases.put(lease, BASE, monthOf(from));
        roll.headcounts.tell(lease, from, heads);
        roll.rents.tell(lease, from, rent);
        return renewed(journal.kept(lease));
    }

    public int advance(int lease, int coins) throws IndexOutOfBoundsException, IllegalArgumentException {
        needLease(lease);
        need(isBetween(coins, 0, MOST_COINS));
        int before = roll.leases.at(lease, ADVANCE);
        roll.leases.put(lease, ADVANCE, coins);
        return renewed(journal.kept(before));
    }

    public int heads(int lease, int day, int heads) throws IndexOutOfBoundsException, IllegalArgumentException {
        needLease(lease);
        need(isBetween(day, roll.leases.at(lease, FROM), LAST_DAY) && isBetween(heads, 1, 6));
        int before = roll.headcounts.on(lease, day);
        roll.headcounts.tell(lease, day, heads);
        return renewed(journal.kept(before));
    }

    public int step(int lease, int day, int rent) throws IndexOutOfBoundsException, IllegalArgumentException {
        needLease(lease);
        need(isBetween(day, roll.leases.at(lease, FROM), LAST_DAY) && isBetween(rent, 1, MOST_COINS));
        int before = roll.rentOn(lease, day);
        roll.rents.tell(lease, day, rent);
        return renewed(journal.kept(before));
    }

    public int freeMonth(int lease, int month) throws IndexOutOfBoundsException, IllegalArgumentException {
        needLease(lease);
        need(isMonth(month));
        int then = roll.isFreeMonth(lease, month) ? 0 : 1;
        roll.freeMonths.tell(lease, month, then);
        return renewed(journal.kept(then));
    }

    public int option(int lease, int days) throws IndexOutOfBoundsException, IllegalArgumentException {
        needLease(lease);
        need(isBetween(days, 1, 1000));
        int to = roll.leases.at(lease, TO);
        if (to == NONE || roll.leases.at(lease, NOTICE) != NONE) {
            return CANNOT;
        }
        int later = Math.min(to + days, LAST_DAY);
        if (roll.isMeeting(lease, roll.leases.at(lease, FLAT), roll.leases.at(lease, FROM), later)) {
            return CANNOT;
        }
        roll.leases.put(lease, TO, later);
        return renewed(journal.kept(later));
    }

    public int notice(int lease, int day) throws IndexOutOfBoundsException, IllegalArgumentException {
        needLease(lease);
        need(isDay(day));
        int month = monthOf(day);
        int behind = day - firstOf(month) < 3 ? 2 : 3;
        int end = firstOf(month + behind + 1) - 1;
        int to = roll.leases.at(lease, TO);
        boolean isTold = roll.leases.at(lease, NOTICE) != NONE;
        if (!roll.isItsDay(lease, day) || isTold || end >= (to == NONE ? LAST_DAY : to)) {
            return CANNOT;
        }
        roll.leases.put(lease, NOTICE, end);
        return renewed(journal.kept(end));
    }

    public int index(int month, int value) throws IllegalArgumentException {
        need(isMonth(month) && isBetween(value, 1, 10000));
        int before = roll.indexOf(month);
        roll.indexes.tell(0, month, value);
        return renewed(journal.kept(before));
    }

    public int clause(int lease, int bar, int top) throws IndexOutOfBoundsException, IllegalArgumentException {
        needLease(lease);
        need(isBetween(bar, 0, 50) && isBetween(top, 0, 50));
        roll.leases.put(lease, BAR, bar);
        roll.leases.put(lease, TOP, top);
        return renewed(journal.kept(roll.rents.changesOf(lease)));
    }

    public int adjust(int lease, int month)
            throws IndexOutOfBoundsException, IllegalArgumentException, IllegalStateException {
        needLease(lease);
        need(isMonth(month));
        needState(roll.leases.at(lease, BAR) != NONE);
        int first = firstOf(month);
        int rent = roll.isLaterDay(lease, first) ? roll.adjustedRent(lease, month) : NONE;
        if (rent == NONE) {
            return CANNOT;
        }
        roll.rents.tell(lease, first, rent);
        roll.leases.put(lease, BASE, month);
        return renewed(journal.kept(rent));
    }

    public int compare(int house, int coins) throws IllegalArgumentException, IllegalStateException {
        need(isBetween(house, 0, HOUSES - 1) && isBetween(coins, 1, 1000));
        needState(roll.rows.howMany(HOUSE, house) < MOST_EACH);
        roll.rows.append(house, coins, NONE, NONE);
        return renewed(journal.kept(roll.rows.howMany(HOUSE, house)));
    }

    public int raise(int lease, int month) throws IndexOutOfBoundsException, IllegalArgumentException {
        needLease(lease);
        need(isMonth(month));
        int first = firstOf(month);
        int rent = roll.isLaterDay(lease, first) ? roll.raisedRent(lease, first) : NONE;
        if (rent == NONE || rent <= roll.rentOn(lease, first - 1)) {
            return CANNOT;
        }
        roll.rents.tell(lease, first, rent);
        return renewed(journal.kept(rent));
    }

    // ---- what is done: dues and payments

    public int defect(int lease, int from, int to, int percent)
            throws IndexOutOfBoundsException, IllegalArgumentException, IllegalStateException {
        needLease(lease);
        need(isSpan(from, to) && isBetween(percent, 1, 100));
        needState(roll.defects.howMany(LEASE, lease) < MOST_EACH);
        roll.defects.append(lease, from, to, percent);
        return renewed(journal.kept(roll.defects.howMany(LEASE, lease)));
    }

    public int pay(int lease, int day, int coins, int word)
            throws IndexOutOfBoundsException, IllegalArgumentException {
        needLease(lease);
        need(isBetween(day, roll.leases.at(lease, FROM), LAST_DAY));
        need(isBetween(coins, 1, MOST_COINS) && isBetween(word, NONE, MONTHS - 1));
        books.payments.append(lease, day, coins, word);
        return renewed(journal.kept(books.payments.howMany(LEASE, lease)));
    }

    public int refund(int lease, int day, int coins) throws IndexOutOfBoundsException, IllegalArgumentException {
        needLease(lease);
        need(isDay(day) && isBetween(coins, 1, MOST_COINS));
        if (owedOn(lease, day, 1) < coins) {
            return CANNOT;
        }
        books.charges.append(lease, day, coins, REFUND_KIND);
        // only when the call is kept, LAST is right again, on which the credit depends
        int kept = renewed(journal.kept(0));
        return kept == CANNOT ? CANNOT : owedOn(lease, day, 1);
    }

    public int rate(int day, int rate) throws IllegalArgumentException {
        need(isDay(day) && isBetween(rate, 0, 5000));
        int before = Math.max(books.rates.on(0, day), 0);
        books.rates.tell(0, day, rate);
        return renewed(journal.kept(before));
    }

    public int remind(int lease, int day) throws IndexOutOfBoundsException, IllegalArgumentException {
        needLease(lease);
        need(isDay(day));
        ledger.look(lease, roll.lastOf(lease), LAST_DAY);
        if (ledger.overdueOn(day) == 0 || books.isReminderNear(lease, day)) {
            return CANNOT;
        }
        books.charges.append(lease, day, REMINDER_FEE, FEE_KIND);
        return renewed(journal.kept(books.remindersOf(lease)));
    }

    public int terminate(int lease, int day) throws IndexOutOfBoundsException, IllegalArgumentException {
        needLease(lease);
        need(isDay(day));
        boolean isStanding = roll.leases.at(lease, TERMINATED) != NONE && !roll.isCured(lease);
        if (isStanding || !roll.isItsDay(lease, day) || owedOn(lease, day, 4) == 0) {
            return CANNOT;
        }
        roll.leases.put(lease, TERMINATED, day);
        return renewed(journal.kept(day + GRACE));
    }

    public int out(int lease) throws IndexOutOfBoundsException {
        needLease(lease);
        int told = roll.leases.at(lease, TERMINATED);
        int last = roll.lastOf(lease);
        if (told == NONE || roll.isCured(lease) || last < told + GRACE) {
            return CANNOT;
        }
        roll.leases.put(lease, TO, last);
        return renewed(journal.kept(last));
    }

    // ---- what is done: costs, deposits, works

    public int read(int flat, int day, int value) throws IndexOutOfBoundsException, IllegalArgumentException {
        needFlat(flat);
        need(isDay(day) && isBetween(value, 0, MOST_COINS));
        int next = roll.readings.nextChange(flat, day);
        boolean isBelow = roll.readings.on(flat, day - 1) > value;
        if (isBelow || (next < DAYS && roll.readings.on(flat, next) < value)) {
            return CANNOT;
        }
        roll.readings.tell(flat, day, value);
        return renewed(journal.kept(roll.readings.changesOf(flat)));
    }

    public int bill(int house, int key, int from, int to, int coins, int laid)
            throws IllegalArgumentException, IllegalStateException {
        need(isBetween(house, 0, HOUSES - 1) && isBetween(key, AREA_KEY, MIXED_KEY) && isSpan(from, to));
        need(isBetween(coins, 1, MOST_COINS) && isBetween(laid, 0, 100));
        needState(!costs.bills.isFull());
        int bill = costs.bills.append(house, from, to, key);
        costs.bills.put(bill, BILL_COINS, coins);
        costs.bills.put(bill, LAID, laid);
        return renewed(journal.kept(bill));
    }

    public int settle(int house, int year, int day) throws IllegalArgumentException {
        need(isBetween(house, 0, HOUSES - 1) && isBetween(year, 0, YEARS - 1) && isDay(day));
        reckonSettlements(house, year);
        int made = 0;
        for (int lease = 0; lease < amounts.length; lease++) {
            if (amounts[lease] != 0) {
                books.settlements.append(lease, day, amounts[lease], year);
                made++;
            }
        }
        return renewed(journal.kept(made));
    }

    public int deposit(int lease, int day, int coins) throws IndexOutOfBoundsException, IllegalArgumentException {
        needLease(lease);
        need(isDay(day) && isBetween(coins, 1, MOST_COINS));
        if (day < books.lastMove(lease)) {
            return CANNOT;
        }
        int then = books.heldOn(lease, day) + coins;
        books.held.tell(lease, day, then);
        return renewed(journal.kept(then));
    }

    public int use(int lease, int day, int coins) throws IndexOutOfBoundsException, IllegalArgumentException {
        needLease(lease);
        need(isBetween(day, roll.leases.at(lease, FROM), LAST_DAY) && isBetween(coins, 1, MOST_COINS));
        int then = books.heldOn(lease, day) - coins;
        if (day < books.lastMove(lease) || then < 0) {
            return CANNOT;
        }
        books.held.tell(lease, day, then);
        books.used.append(lease, day, coins, NONE);
        return renewed(journal.kept(then));
    }

    public int giveBack(int lease, int day) throws IndexOutOfBoundsException, IllegalArgumentException {
        needLease(lease);
        need(isDay(day));
        if (day < books.lastMove(lease) || day <= roll.lastOf(lease)) {
            return CANNOT;
        }
        int given = books.heldOn(lease, day) + books.fruits(lease, roll.leases.at(lease, GIVEN_BACK), day);
        books.held.tell(lease, day, 0);
        roll.leases.put(lease, GIVEN_BACK, day);
        return renewed(journal.kept(given));
    }

    public int work(int flat, int from, int to, int worth)
            throws IndexOutOfBoundsException, IllegalArgumentException, IllegalStateException {
        needFlat(flat);
        need(isSpan(from, to) && isBetween(worth, 1, 1000));
        needState(!planner.works.isFull());
        return renewed(journal.kept(planner.works.append(flat, from, to, worth)));
    }

    public int undo() throws IllegalStateException {
        needState(journal.dropCall());
        return renewed(journal.calls);
    }

    public int knock() {
        refused++;
        return refused;
    }

    // ---- what is asked of leases

    public int area(int flat, int day) throws IndexOutOfBoundsException, IllegalArgumentException {
        needFlat(flat);
        need(isDay(day));
        return roll.areas.on(flat, day);
    }

    public int tenant(int flat, int day) throws IndexOutOfBoundsException, IllegalArgumentException {
        needFlat(flat);
        need(isDay(day));
        return roll.tenantOn(flat, day);
    }

    public int ofLease(int lease, int what) throws IndexOutOfBoundsException, IllegalArgumentException {
        needLease(lease);
        need(isBetween(what, 0, 11));
        return aboutLease(lease, what);
    }

    public int rentOf(int lease, int day) throws IndexOutOfBoundsException, IllegalArgumentException {
        needLease(lease);
        need(isDay(day));
        return roll.rentOn(lease, day);
    }

    public int due(int lease, int month, int kind) throws IndexOutOfBoundsException, IllegalArgumentException {
        needLease(lease);
        need(isMonth(month) && isBetween(kind, RENT_KIND, ADVANCE_KIND));
        dues.reckon(lease, roll.lastOf(lease));
        return dues.of(month, kind);
    }

    public int owed(int lease, int day, int what) throws IndexOutOfBoundsException, IllegalArgumentException {
        needLease(lease);
        need(isDay(day) && isBetween(what, 0, 4));
        return owedOn(lease, day, what);
    }

    public int open(int lease, int month, int day) throws IndexOutOfBoundsException, IllegalArgumentException {
        needLease(lease);
        need(isMonth(month) && isDay(day));
        ledger.look(lease, roll.lastOf(lease), day);
        return ledger.openRentOf(month);
    }

    public String interest(int lease, int from, int to, boolean isUnits)
            throws IndexOutOfBoundsException, IllegalArgumentException {
        needLease(lease);
        need(isSpan(from, to));
        ledger.look(lease, roll.lastOf(lease), LAST_DAY);
        long units = ledger.unitsOver(from, to);
        return script.digitsOf(isUnits ? units : units / UNITS_OF_A_COIN);
    }

    public int pressing(int lease, int by) throws IndexOutOfBoundsException, IllegalArgumentException {
        needLease(lease);
        need(isDay(by));
        ledger.look(lease, roll.agreedLast(lease), LAST_DAY);
        return ledger.firstPressing(roll.leases.at(lease, FROM), Math.min(by, roll.lastOf(lease)));
    }

    public String text(int lease) throws IndexOutOfBoundsException {
        needLease(lease);
        return script.textOf(lease);
    }

    public int spoiled(int lease, int at, int sign) throws IndexOutOfBoundsException, IllegalArgumentException {
        needLease(lease);
        script.write(lease);
        if (at < 0 || at >= script.page.length()) {
            throw new IndexOutOfBoundsException();
        }
        need(isBetween(sign, 0, 11));
        script.spoil(at, sign);
        return script.fault();
    }

    // ---- what is asked of costs

    public int reading(int flat, int day) throws IndexOutOfBoundsException, IllegalArgumentException {
        needFlat(flat);
        need(isDay(day));
        return roll.readOn(flat, day);
    }

    public int share(int bill, int lease) throws IndexOutOfBoundsException {
        needBearer(bill, lease);
        costs.look(bill);
        return costs.shareOf(lease);
    }

    public String exactShare(int bill, int lease) throws IndexOutOfBoundsException {
        needBearer(bill, lease);
        costs.look(bill);
        return script.pointed(costs.exactOf(lease));
    }

    public int settled(int lease, int year) throws IndexOutOfBoundsException, IllegalArgumentException {
        needLease(lease);
        need(isBetween(year, 0, YEARS - 1));
        return books.settledFor(lease, year);
    }

    public int depositOf(int lease, int day, int what) throws IndexOutOfBoundsException, IllegalArgumentException {
        needLease(lease);
        need(isDay(day) && isBetween(what, 0, 1));
        return ofDeposit(lease, day, what);
    }

    public String free(int flat) throws IndexOutOfBoundsException {
        needFlat(flat);
        return planner.spansOf(flat);
    }

    public String best(int flat) throws IndexOutOfBoundsException {
        needFlat(flat);
        return planner.bestOf(flat);
    }

    public int owner(int house, int year, int what) throws IllegalArgumentException {
        need(isBetween(house, 0, HOUSES - 1) && isBetween(year, 0, YEARS - 1) && isBetween(what, 0, 5));
        return what < 3 ? fromLeases(house, year, what) : fromBills(house, year, what);
    }

    // ---- the whole

    public int count(int what) throws IllegalArgumentException {
        need(isBetween(what, 0, 8));
        return howMany(what);
    }

    public boolean isSound() {
        return isAllSound();
    }

    public long digest() {
        long sum = 6508;
        for (int what = 0; what <= 8; what++) {
            sum = sum * 31 + howMany(what);
        }
        for (int flat = 0; flat < roll.flats.size(); flat++) {
            sum = withFlat(sum, flat);
        }
        for (int lease = 0; lease < roll.leases.size(); lease++) {
            sum = withLease(sum, lease);
        }
        for (int bill = 0; bill < costs.bills.size(); bill++) {
            sum = withBill(sum, bill);
        }
        return sum * 31 + (isAllSound() ? 1 : 0);
    }

    private long withFlat(long before, int flat) {
        long sum = before * 31 + roll.areas.on(flat, 0);
        sum = sum * 31 + roll.readOn(flat, 0);
        sum = sum * 31 + roll.areas.on(flat, LAST_DAY);
        sum = sum * 31 + roll.readOn(flat, LAST_DAY);
        sum = sum * 31 + planner.spansOf(flat).length();
        return sum * 31 + planner.bestOf(flat).length();
    }

    private long withLease(long before, int lease) {
        long sum = before;
        for (int what = 0; what <= 11; what++) {
            sum = sum * 31 + aboutLease(lease, what);
        }
        for (int turn = 0; turn < 2; turn++) {
            int day = turn == 0 ? 700 : LAST_DAY;
            sum = sum * 31 + roll.rentOn(lease, day);
            for (int what = 0; what <= 3; what++) {
                sum = sum * 31 + owedOn(lease, day, what);
            }
        }
        sum = sum * 31 + script.digitsOf(ledger.unitsOver(0, LAST_DAY)).length();
        for (int year = 0; year < YEARS; year++) {
            sum = sum * 31 + books.settledFor(lease, year);
        }
        sum = sum * 31 + ofDeposit(lease, LAST_DAY, 0);
        sum = sum * 31 + ofDeposit(lease, LAST_DAY, 1);
        return sum * 31 + script.textOf(lease).length();
    }

    private long withBill(long before, int bill) {
        costs.look(bill);
        long sum = before * 31 + costs.shareOf(NONE);
        for (int lease = 0; lease < roll.leases.size(); lease++) {
            sum = sum * 31 + costs.shareOf(lease);
        }
        return sum;
    }

    // ---- what the calls of the face share

    private static void need(boolean isRight) throws IllegalArgumentException {
        if (!isRight) {
            throw new IllegalArgumentException();
        }
    }

    private static void needState(boolean isRight) throws IllegalStateException {
        if (!isRight) {
            throw new IllegalStateException();
        }
    }

    private void needFlat(int flat) throws IndexOutOfBoundsException {
        if (flat < 0 || flat >= roll.flats.size()) {
            throw new IndexOutOfBoundsException();
        }
    }

    private void needLease(int lease) throws IndexOutOfBoundsException {
        if (lease < 0 || lease >= roll.leases.size()) {
            throw new IndexOutOfBoundsException();
        }
    }

    private void needBearer(int bill, int lease) throws IndexOutOfBoundsException {
        if (bill < 0 || bill >= costs.bills.size() || lease < NONE || lease >= roll.leases.size()) {
            throw new IndexOutOfBoundsException();
        }
    }

    private static boolean isBetween(int value, int least, int most) {
        return value >= least && value <= most;
    }

    private static boolean isDay(int day) {
        return isBetween(day, 0, LAST_DAY);
    }

    private static boolean isSpan(int from, int to) {
        return isDay(from) && isBetween(to, from, LAST_DAY);
    }

    private static boolean isMonth(int month) {
        return isBetween(month, 0, MONTHS - 1);
    }

    private static int firstOf(int month) {
        int part = month % YEAR_MONTHS;
        int start = part >= 0 && part < STARTS.length ? STARTS[part] : 0;
        return month / YEAR_MONTHS * YEAR_DAYS + start;
    }

    private static int lengthOf(int month) {
        int part = month % YEAR_MONTHS;
        return part >= 0 && part + 1 < STARTS.length ? STARTS[part + 1] - STARTS[part] : 1;
    }

    private static int monthOf(int day) {
        int within = day % YEAR_DAYS;
        int part = 0;
        for (int next = 1; next < YEAR_MONTHS && next < STARTS.length; next++) {
            if (STARTS[next] <= within) {
                part = next;
            }
        }
        return day / YEAR_DAYS * YEAR_MONTHS + part;
    }

    /** LAST depends on whether a termination is cured, and so on all that was told: it is found once a call. */
    private int renewed(int answer) {
        for (int lease = 0; lease < roll.leases.size(); lease++) {
            int agreed = roll.agreedLast(lease);
            int told = roll.leases.at(lease, TERMINATED);
            boolean isCured = told != NONE && ledger.isCleared(lease, agreed, told);
            boolean isEnding = told != NONE && !isCured;
            roll.setLast(lease, isEnding ? Math.min(agreed, told + GRACE) : agreed, isCured);
        }
        return answer;
    }

    private int owedOn(int lease, int day, int what) {
        ledger.look(lease, what == 4 ? roll.agreedLast(lease) : roll.lastOf(lease), LAST_DAY);
        switch (what) {
            case 0:
                return ledger.owedOn(day);
            case 1:
                return ledger.creditOn(day);
            case 2:
                return ledger.rentOpenOn(day);
            case 3:
                return ledger.openCountOn(day);
            default:
                return ledger.isPressingOn(day) ? 1 : 0;
        }
    }

    private int aboutLease(int lease, int what) {
        switch (what) {
            case 0:
                return roll.leases.at(lease, FROM);
            case 1:
                return roll.leases.at(lease, TO);
            case 2:
                return roll.lastOf(lease);
            case 3:
                return roll.leases.at(lease, NOTICE);
            case 4:
                return roll.leases.at(lease, TERMINATED);
            case 5:
                return roll.isCured(lease) ? 1 : 0;
            case 6:
                return roll.rents.changesOf(lease);
            case 7:
                return roll.defects.howMany(LEASE, lease);
            case 8:
                return books.remindersOf(lease);
            case 9:
                return roll.leases.at(lease, BASE);
            case 10:
                return roll.freeMonths.changesTo(lease, 1);
            default:
                return books.settlements.howMany(LEASE, lease);
        }
    }

    private int howMany(int what) {
        switch (what) {
            case 0:
                return roll.flats.size();
            case 1:
                return roll.leases.size();
            case 2:
                return costs.bills.size();
            case 3:
                return books.payments.size();
            case 4:
                return planner.works.size();
            case 5:
                return roll.indexes.size();
            case 6:
                return books.rates.size();
            case 7:
                return journal.calls;
            default:
                return refused;
        }
    }

    private int ofDeposit(int lease, int day, int what) {
        if (what == 0) {
            return books.heldOn(lease, day);
        }
        boolean isOver = books.lastMove(lease) > day;
        return isOver ? 0 : books.fruits(lease, roll.leases.at(lease, GIVEN_BACK), day);
    }

    /** Fills the amounts of all leases before one is told: a settlement can change what the next one rests on. */
    private void reckonSettlements(int house, int year) {
        Arrays.fill(amounts, 0);
        for (int bill = 0; bill < costs.bills.size(); bill++) {
            if (costs.isOf(bill, house, year)) {
                costs.look(bill);
                for (int lease = 0; lease < amounts.length; lease++) {
                    amounts[lease] += costs.shareOf(lease);
                }
            }
        }
        for (int lease = 0; lease < amounts.length && lease < roll.leases.size(); lease++) {
            if (roll.houseOf(lease) == house) {
                dues.reckon(lease, roll.lastOf(lease));
                amounts[lease] -= dues.ofYear(year, ADVANCE_KIND) + books.settledFor(lease, year);
            }
        }
    }

    private int fromLeases(int house, int year, int what) {
        int sum = 0;
        for (int lease = 0; lease < roll.leases.size(); lease++) {
            if (roll.houseOf(lease) != house) {
                continue;
            }
            if (what == 2) {
                sum += books.paidIn(lease, year);
            } else {
                dues.reckon(lease, roll.lastOf(lease));
                sum += dues.ofYear(year, what);
            }
        }
        return sum;
    }

    private int fromBills(int house, int year, int what) {
        int sum = 0;
        for (int bill = 0; bill < costs.bills.size(); bill++) {
            if (costs.isOf(bill, house, year)) {
                costs.look(bill);
                int coins = costs.bills.at(bill, BILL_COINS);
                int owners = costs.shareOf(NONE);
                sum += what == 3 ? coins : what == 4 ? costs.sharesOfLeases() : owners;
            }
        }
        return sum;
    }

    private boolean isAllSound() {
        boolean isSound = true;
        for (int bill = 0; bill < costs.bills.size(); bill++) {
            costs.look(bill);
            isSound = isSound && costs.isSoundBill();
        }
        for (int lease = 0; lease < roll.leases.size(); lease++) {
            isSound = isSound && !roll.isSharingDays(lease) && script.isTextRight(lease);
            isSound = isSound && ledger.isLeaseSound(lease, roll.lastOf(lease));
        }
        for (int flat = 0; flat < roll.flats.size(); flat++) {
            isSound = isSound && planner.freeDaysOf(flat) + roll.daysOfLeases(flat) == DAYS;
        }
        return isSound;
    }

    /** What each kept call changed, so that the last one can be taken back. */
    private static final class Journal {
        private final Table[] tables;
        private final int[] cells;
        private final int[] before;
        private final int[] behindCall;
        private int changes;
        private int calls;
        private int version;

        Journal() {
            tables = new Table[MOST_CHANGES];
            cells = new int[MOST_CHANGES];
            before = new int[MOST_CHANGES];
            behindCall = new int[MOST_CALLS + 1];
        }

        void note(Table table, int cell, int value) {
            version++;
            if (changes >= 0 && changes < MOST_CHANGES) {
                tables[changes] = table;
                cells[changes] = cell;
                before[changes] = value;
                changes++;
            }
        }

        /** Files the call that has just changed something; beyond the limit it is taken back and told -9. */
        int kept(int answer) {
            if (calls < 0 || calls >= MOST_CALLS) {
                takeBack();
                return CANNOT;
            }
            calls++;
            behindCall[calls] = changes;
            return answer;
        }

        boolean dropCall() {
            if (calls <= 0) {
                return false;
            }
            calls--;
            takeBack();
            return true;
        }

        private void takeBack() {
            version++;
            int kept = calls >= 0 && calls < behindCall.length ? behindCall[calls] : 0;
            for (int change = changes - 1; change >= kept && change >= 0; change--) {
                Table table = change < MOST_CHANGES ? tables[change] : null;
                if (table != null) {
                    table.restore(cells[change], before[change]);
                }
            }
            changes = kept;
        }
    }

    /** Rows of whole numbers; the first cell tells how many rows there are, so that undoing finds it too. */
    private static final class Table {
        private final Journal journal;
        private final int width;
        private final int[] cells;

        Table(Journal journal, int rows, int width) {
            this.journal = journal;
            this.width = width;
            this.cells = new int[Math.max(1 + rows * width, 1)];
        }

        int size() {
            return cells.length > 0 ? cells[0] : 0;
        }

        boolean isFull() {
            return (size() + 1) * width >= cells.length;
        }

        /** A new row; columns behind the fourth one are NONE. Only the size is noted: undone, the row is gone. */
        int append(int first, int second, int third, int fourth) {
            if (isFull()) {
                return NONE;
            }
            int row = size();
            for (int column = 0; column < width; column++) {
                int cell = 1 + row * width + column;
                if (cell > 0 && cell < cells.length) {
                    cells[cell] = column == 0 ? first : column == 1 ? second
                        : column == 2 ? third : column == 3 ? fourth : NONE;
                }
            }
            change(0, row + 1);
            return row;
        }

        int at(int row, int column) {
            int cell = 1 + row * width + column;
            return row >= 0 && column >= 0 && cell > 0 && cell < cells.length ? cells[cell] : NONE;
        }

        void put(int row, int column, int value) {
            if (row >= 0 && column >= 0 && column < width) {
                change(1 + row * width + column, value);
            }
        }

        private void change(int cell, int value) {
            if (cell >= 0 && cell < cells.length) {
                journal.note(this, cell, cells[cell]);
                cells[cell] = value;
            }
        }

        void restore(int cell, int value) {
            if (cell >= 0 && cell < cells.length) {
                cells[cell] = value;
            }
        }

        int howMany(int column, int value) {
            return howManyBoth(column, value, column, value);
        }

        int howManyBoth(int column, int value, int other, int otherValue) {
            int count = 0;
            int rows = size();
            for (int row = 0; row < rows; row++) {
                if (at(row, column) == value && at(row, other) == otherValue) {
                    count++;
                }
            }
            return count;
        }
    }

    /** Values that change on days, each of a lease or flat; a day's value is that of the latest change not later. */
    private static final class Timeline {
        private final Table changes;

        Timeline(Journal journal, int rows) {
            changes = new Table(journal, rows, 3);
        }

        int size() {
            return changes.size();
        }

        int changesOf(int whose) {
            return changes.howMany(WHOSE, whose);
        }

        /** How many changes of it there are to that value. */
        int changesTo(int whose, int value) {
            return changes.howManyBoth(WHOSE, whose, VALUE, value);
        }

        int dayAt(int row) {
            return changes.at(row, DAY);
        }

        int valueAt(int row) {
            return changes.at(row, VALUE);
        }

        void tell(int whose, int day, int value) {
            int row = latestRow(whose, day);
            if (row != NONE && changes.at(row, DAY) == day) {
                changes.put(row, VALUE, value);
            } else {
                changes.append(whose, day, value, NONE);
            }
        }

        /** What was told for that very day; NONE without it. */
        int toldFor(int whose, int day) {
            int rows = changes.size();
            for (int row = 0; row < rows; row++) {
                if (changes.at(row, DAY) == day && changes.at(row, WHOSE) == whose) {
                    return changes.at(row, VALUE);
                }
            }
            return NONE;
        }

        /** The row of the latest change that is not later; NONE without one. */
        int latestRow(int whose, int day) {
            int latest = NONE;
            int latestDay = NONE;
            int rows = changes.size();
            for (int row = 0; row < rows; row++) {
                int told = changes.at(row, DAY);
                if (told <= day && told > latestDay && changes.at(row, WHOSE) == whose) {
                    latest = row;
                    latestDay = told;
                }
            }
            return latest;
        }

        /** The value on a day; NONE ahead of the first one. */
        int on(int whose, int day) {
            int row = latestRow(whose, day);
            return row == NONE ? NONE : changes.at(row, VALUE);
        }

        /** The day of the first change behind a day; DAYS without one. */
        int nextChange(int whose, int day) {
            int next = DAYS;
            int rows = changes.size();
            for (int row = 0; row < rows; row++) {
                int told = changes.at(row, DAY);
                if (told > day && told < next && changes.at(row, WHOSE) == whose) {
                    next = told;
                }
            }
            return next;
        }

        /** Writes the value of each day; 0 ahead of the first one. */
        void spread(int whose, int[] days) {
            Arrays.fill(days, NONE);
            int rows = changes.size();
            for (int row = 0; row < rows; row++) {
                int day = changes.at(row, DAY);
                if (changes.at(row, WHOSE) == whose && day >= 0 && day < days.length) {
                    days[day] = changes.at(row, VALUE);
                }
            }
            int value = 0;
            for (int day = 0; day < days.length; day++) {
                value = days[day] == NONE ? value : days[day];
                days[day] = value;
            }
        }
    }

    /** Flats, leases and what their rents go by. */
    private static final class Roll {
        private final Table flats;
        private final Table leases;
        private final Table defects;
        private final Table rows;
        private final Timeline areas;
        private final Timeline headcounts;
        private final Timeline rents;
        private final Timeline freeMonths;
        private final Timeline indexes;
        private final Timeline readings;
        private final int[] lasts;
        private final boolean[] cured;
        private final int[] sorted;

        Roll(Journal journal) {
            flats = new Table(journal, MOST_FLATS, 1);
            leases = new Table(journal, MOST_LEASES, LEASE_COLUMNS);
            defects = new Table(journal, MOST_LEASES * MOST_EACH, 4);
            rows = new Table(journal, HOUSES * MOST_EACH, 2);
            areas = new Timeline(journal, MOST_FLATS + 2 * MOST_CALLS + 2);
            headcounts = new Timeline(journal, MOST_LEASES + MOST_CALLS + 1);
            rents = new Timeline(journal, MOST_LEASES + MOST_CALLS + 1);
            freeMonths = new Timeline(journal, MOST_CALLS + 1);
            indexes = new Timeline(journal, MONTHS);
            readings = new Timeline(journal, MOST_CALLS + 1);
            lasts = new int[MOST_LEASES];
            cured = new boolean[MOST_LEASES];
            sorted = new int[MOST_EACH];
        }

        int houseOfFlat(int flat) {
            return flats.at(flat, HOUSE);
        }

        int houseOf(int lease) {
            return flats.at(leases.at(lease, FLAT), HOUSE);
        }

        int lastOf(int lease) {
            return lease >= 0 && lease < lasts.length ? lasts[lease] : NONE;
        }

        boolean isCured(int lease) {
            return lease >= 0 && lease < cured.length && cured[lease];
        }

        void setLast(int lease, int last, boolean isCured) {
            if (lease >= 0 && lease < lasts.length && lease < cured.length) {
                lasts[lease] = last;
                cured[lease] = isCured;
            }
        }

        /** The last day by TO and NOTICE alone, whatever a termination tells. */
        int agreedLast(int lease) {
            int to = leases.at(lease, TO);
            int noticed = leases.at(lease, NOTICE);
            int last = to == NONE ? LAST_DAY : to;
            return noticed == NONE ? last : Math.min(last, noticed);
        }

        boolean isItsDay(int lease, int day) {
            return day >= leases.at(lease, FROM) && day <= lastOf(lease);
        }

        boolean isLaterDay(int lease, int day) {
            return day > leases.at(lease, FROM) && day <= lastOf(lease);
        }

        /** Whether a lease of the flat, but this one, has a day of that span. */
        boolean isMeeting(int but, int flat, int from, int to) {
            int count = leases.size();
            for (int lease = 0; lease < count; lease++) {
                boolean isOther = lease != but && leases.at(lease, FLAT) == flat;
                if (isOther && leases.at(lease, FROM) <= to && agreedLast(lease) >= from) {
                    return true;
                }
            }
            return false;
        }

        boolean isSharingDays(int lease) {
            return isMeeting(lease, leases.at(lease, FLAT), leases.at(lease, FROM), agreedLast(lease));
        }

        int tenantOn(int flat, int day) {
            int count = Math.min(leases.size(), lasts.length);
            for (int lease = 0; lease < count; lease++) {
                if (day <= lasts[lease] && leases.at(lease, FROM) <= day && leases.at(lease, FLAT) == flat) {
                    return lease;
                }
            }
            return NONE;
        }

        /** The first day behind this one on which a lease of the flat begins or is over; DAYS without one. */
        int nextTurn(int flat, int day) {
            int next = DAYS;
            int count = Math.min(leases.size(), lasts.length);
            for (int lease = 0; lease < count; lease++) {
                int from = leases.at(lease, FROM);
                int turn = from > day ? from : lasts[lease] + 1;
                if (turn > day && turn < next && leases.at(lease, FLAT) == flat) {
                    next = turn;
                }
            }
            return next;
        }

        int daysOfLeases(int flat) {
            int days = 0;
            int count = Math.min(leases.size(), lasts.length);
            for (int lease = 0; lease < count; lease++) {
                if (leases.at(lease, FLAT) == flat) {
                    days += lasts[lease] - leases.at(lease, FROM) + 1;
                }
            }
            return days;
        }

        int rentOn(int lease, int day) {
            return Math.max(rents.on(lease, day), 0);
        }

        boolean isFreeMonth(int lease, int month) {
            return freeMonths.toldFor(lease, month) == 1;
        }

        int indexOf(int month) {
            return indexes.toldFor(0, month);
        }

        /** The rent from the month on by the index; NONE if it cannot be adjusted. */
        int adjustedRent(int lease, int month) {
            int base = leases.at(lease, BASE);
            int value = indexOf(month);
            int baseValue = indexOf(base);
            if (value == NONE || baseValue <= 0 || month <= base) {
                return NONE;
            }
            boolean isOverBar = value * 100 >= baseValue * (100 + leases.at(lease, BAR));
            if (!isOverBar || value <= baseValue) {
                return NONE;
            }
            long rent = rentOn(lease, firstOf(month) - 1);
            long grown = (2 * rent * value + baseValue) / (2L * baseValue);
            long most = rent * (100 + leases.at(lease, TOP)) / 100;
            return (int) Math.min(Math.min(grown, most), MOST_COINS);
        }

        /** The rent from a day on by the rows of the house; NONE if there are too few. */
        int raisedRent(int lease, int day) {
            int house = houseOf(lease);
            int count = 0;
            for (int row = 0; row < rows.size(); row++) {
                if (rows.at(row, HOUSE) == house && count < sorted.length) {
                    sortIn(count, rows.at(row, ROW_COINS));
                    count++;
                }
            }
            int middle = (count - 1) / 2;
            if (count < 3 || middle < 0 || middle >= sorted.length) {
                return NONE;
            }
            int then = Math.max(day - LOOK_BACK, leases.at(lease, FROM));
            int compared = sorted[middle] * areas.on(leases.at(lease, FLAT), day);
            int most = rentOn(lease, then) * 120 / 100;
            return Math.min(Math.min(compared, most), MOST_COINS);
        }

        private void sortIn(int count, int coins) {
            int place = count;
            while (place > 0 && place < sorted.length && sorted[place - 1] > coins) {
                sorted[place] = sorted[place - 1];
                place--;
            }
            if (place >= 0 && place < sorted.length) {
                sorted[place] = coins;
            }
        }

        int readOn(int flat, int day) {
            int row = readings.latestRow(flat, day);
            int value = row == NONE ? 0 : readings.valueAt(row);
            int later = readings.nextChange(flat, day);
            if (later >= DAYS) {
                return value;
            }
            int then = readings.toldFor(flat, later);
            int earlier = row == NONE ? later : readings.dayAt(row);
            if (earlier >= later) {
                return then;
            }
            return value + (then - value) * (day - earlier) / (later - earlier);
        }
    }

    /** What was paid, charged, settled and held. */
    private static final class Books {
        private final Table payments;
        private final Table used;
        private final Table charges;
        private final Table settlements;
        private final Timeline rates;
        private final Timeline held;
        private final int[] heldDays;
        private final int[] rateDays;

        Books(Journal journal) {
            payments = new Table(journal, MOST_CALLS + 1, 4);
            used = new Table(journal, MOST_CALLS + 1, 4);
            charges = new Table(journal, MOST_CALLS + 1, 4);
            settlements = new Table(journal, (MOST_CALLS + 1) * MOST_LEASES, 4);
            rates = new Timeline(journal, MOST_CALLS + 1);
            held = new Timeline(journal, MOST_CALLS + 1);
            heldDays = new int[DAYS];
            rateDays = new int[DAYS];
        }

        int remindersOf(int lease) {
            return charges.howManyBoth(LEASE, lease, MARK, FEE_KIND);
        }

        boolean isReminderNear(int lease, int day) {
            int count = charges.size();
            for (int row = 0; row < count; row++) {
                boolean isReminder = charges.at(row, LEASE) == lease && charges.at(row, MARK) == FEE_KIND;
                if (isReminder && Math.abs(charges.at(row, DAY) - day) < BETWEEN_REMINDERS) {
                    return true;
                }
            }
            return false;
        }

        int settledFor(int lease, int year) {
            int sum = 0;
            int count = settlements.size();
            for (int row = 0; row < count; row++) {
                if (settlements.at(row, LEASE) == lease && settlements.at(row, MARK) == year) {
                    sum += settlements.at(row, COINS);
                }
            }
            return sum;
        }

        int paidIn(int lease, int year) {
            int sum = 0;
            int count = payments.size();
            for (int row = 0; row < count; row++) {
                if (payments.at(row, LEASE) == lease && payments.at(row, DAY) / YEAR_DAYS == year) {
                    sum += payments.at(row, COINS);
                }
            }
            return sum;
        }

        int heldOn(int lease, int day) {
            return Math.max(held.on(lease, day), 0);
        }

        int lastMove(int lease) {
            int row = held.latestRow(lease, LAST_DAY);
            return row == NONE ? NONE : held.dayAt(row);
        }

        /** Coins of fruits by a day, over the days behind that on which the deposit was given back last. */
        int fruits(int lease, int givenBack, int by) {
            held.spread(lease, heldDays);
            rates.spread(0, rateDays);
            long units = 0;
            for (int day = Math.max(givenBack + 1, 1); day <= by && day < DAYS; day++) {
                units += (long) heldDays[day - 1] * rateDays[day];
            }
            return (int) (units / UNITS_OF_A_COIN);
        }
    }

    /** What is due for each month of one lease. */
    private static final class Dues {
        private final Journal journal;
        private final Roll roll;
        private final int[] rentDue;
        private final int[] advanceDue;
        private final int[] rent;
        private final int[] off;
        private int seenLease;
        private int seenLast;
        private int seenVersion;

        Dues(Journal journal, Roll roll) {
            this.journal = journal;
            this.roll = roll;
            rentDue = new int[MONTHS];
            advanceDue = new int[MONTHS];
            rent = new int[DAYS];
            off = new int[DAYS];
            seenLease = NONE;
        }

        void reckon(int lease, int last) {
            if (seenLease == lease && seenLast == last && seenVersion == journal.version) {
                return;
            }
            seenLease = lease;
            seenLast = last;
            seenVersion = journal.version;
            roll.rents.spread(lease, rent);
            spreadOff(lease);
            int from = roll.leases.at(lease, FROM);
            for (int month = 0; month < MONTHS; month++) {
                int length = lengthOf(month);
                int start = Math.max(firstOf(month), from);
                int end = Math.min(firstOf(month) + length - 1, last);
                boolean isFree = start > end || roll.freeMonths.toldFor(lease, month) == 1;
                rentDue[month] = isFree ? 0 : rentFor(start, end, length, roll.leases.at(lease, WAY));
                advanceDue[month] = advanceFor(Math.max(end - start + 1, 0), length, roll.leases.at(lease, ADVANCE));
            }
        }

        private void spreadOff(int lease) {
            Arrays.fill(off, 0);
            int count = roll.defects.size();
            for (int row = 0; row < count; row++) {
                if (roll.defects.at(row, LEASE) != lease) {
                    continue;
                }
                int percent = roll.defects.at(row, PERCENT);
                int to = roll.defects.at(row, TO);
                for (int day = Math.max(roll.defects.at(row, FROM), 0); day <= to && day < off.length; day++) {
                    off[day] = Math.min(off[day] + percent, 100);
                }
            }
        }

        /** Rounded once: the sum stays in hundredths till the end. */
        private int rentFor(int start, int end, int length, int way) {
            long sum = 0;
            for (int day = Math.max(start, 0); day <= end && day < DAYS; day++) {
                sum += (long) rent[day] * (100 - off[day]);
            }
            boolean isWhole = end - start + 1 == length;
            if (isWhole || way == 0) {
                return rounded(sum, 100L * length);
            }
            return way == 1 ? rounded(sum * 12, 36500L) : rounded(sum, 3000L);
        }

        private static int advanceFor(int days, int length, int coins) {
            return rounded((long) coins * days, length);
        }

        private static int rounded(long number, long by) {
            return by > 0 ? (int) ((2 * number + by) / (2 * by)) : 0;
        }

        int of(int month, int kind) {
            if (month < 0 || month >= MONTHS) {
                return 0;
            }
            return kind == RENT_KIND ? rentDue[month] : advanceDue[month];
        }

        int ofYear(int year, int kind) {
            int sum = 0;
            for (int month = year * YEAR_MONTHS; month < (year + 1) * YEAR_MONTHS; month++) {
                sum += of(month, kind);
            }
            return sum;
        }
    }

    /** Debts or payments in the order in which they are looked at; those of days gone by are reached. */
    private static final class Pile {
        private final long[] keys;
        private final int[] coins;
        private final int[] open;
        private int size;
        private int reached;
        private int closed;

        Pile(int most) {
            int length = Math.max(most, 1);
            keys = new long[length];
            coins = new int[length];
            open = new int[length];
        }

        void clear() {
            size = 0;
            reached = 0;
            closed = 0;
        }

        /** Puts one behind those that are not greater: what is alike stays as it was told. */
        void add(int day, int second, int third, int amount) {
            long key = ((long) day << 40) | ((long) second << 32) | third;
            if (size < 0 || size >= keys.length) {
                return;
            }
            int place = size;
            while (place > 0 && place < keys.length && keys[place - 1] > key) {
                keys[place] = keys[place - 1];
                coins[place] = coins[place - 1];
                open[place] = open[place - 1];
                place--;
            }
            if (place >= 0 && place < keys.length) {
                keys[place] = key;
                coins[place] = amount;
                open[place] = amount;
                size++;
            }
        }

        private boolean has(int place) {
            return place >= 0 && place < size && place < keys.length;
        }

        int dayAt(int place) {
            return has(place) ? (int) (keys[place] >> 40) : DAYS;
        }

        int secondAt(int place) {
            return has(place) ? (int) (keys[place] >> 32) & 255 : NONE;
        }

        int coinsAt(int place) {
            return has(place) ? coins[place] : 0;
        }

        int openAt(int place) {
            return has(place) ? open[place] : 0;
        }

        /** Reaches all of days not behind this one. */
        void reach(int day) {
            while (reached < size && dayAt(reached) <= day) {
                reached++;
            }
        }

        /** Covers what is reached and open, in order; returns what is left of the amount. */
        int cover(int amount) {
            int left = amount;
            for (int place = closed; place < reached && left > 0; place++) {
                left = coverOne(place, left);
            }
            while (closed < reached && openAt(closed) == 0) {
                closed++;
            }
            return left;
        }

        /** Covers the rent of that month, if it is reached; returns what is left of the amount. */
        int coverRent(int month, int amount) {
            int place = placeOfRent(month);
            return place < reached ? coverOne(place, amount) : amount;
        }

        private int coverOne(int place, int amount) {
            if (!has(place)) {
                return amount;
            }
            int part = Math.min(open[place], amount);
            open[place] -= part;
            return amount - part;
        }

        /** The place of the rent of that month; size without one. */
        int placeOfRent(int month) {
            for (int place = 0; place < size && place < keys.length; place++) {
                if (((int) (keys[place] >> 32) & 255) == RENT_KIND && (int) keys[place] == month) {
                    return place;
                }
            }
            return size;
        }
    }

    /** Debts and payments of one lease, day by day. */
    private static final class Ledger {
        private static final int NO_WORD = MONTHS;
        private final Journal journal;
        private final Roll roll;
        private final Books books;
        private final Dues dues;
        private final Pile fees;
        private final Pile others;
        private final Pile payments;
        private final int[] owed;
        private final int[] credits;
        private final int[] rentOpen;
        private final int[] openCount;
        private final int[] overdue;
        private final int[] days;
        private int credit;
        private int seenLease;
        private int seenLast;
        private int seenUntil;
        private int seenVersion;

        Ledger(Journal journal, Roll roll, Books books, Dues dues) {
            this.journal = journal;
            this.roll = roll;
            this.books = books;
            this.dues = dues;
            fees = new Pile(MOST_CALLS + 1);
            others = new Pile(2 * MONTHS + MOST_CALLS + 1);
            payments = new Pile(MOST_CALLS + 1);
            owed = new int[DAYS];
            credits = new int[DAYS];
            rentOpen = new int[DAYS];
            openCount = new int[DAYS];
            overdue = new int[DAYS];
            days = new int[DAYS];
            seenLease = NONE;
        }

        /** Books all of a lease that ends so, till behind a day; what is asked then is of this lease. */
        void look(int lease, int last, int until) {
            boolean isSame = seenLease == lease && seenLast == last && seenUntil == until;
            if (isSame && seenVersion == journal.version) {
                return;
            }
            seenLease = lease;
            seenLast = last;
            seenUntil = until;
            seenVersion = journal.version;
            load(lease, last);
            int day = 0;
            while (day <= until) {
                book(day);
                tally(day);
                int next = Math.min(Math.max(nextEvent(), day + 1), until + 1);
                if (day + 1 < next) {
                    // what is due today is overdue only from tomorrow on
                    tally(day + 1);
                    repeat(day + 1, next);
                }
                day = next;
            }
        }

        private int nextEvent() {
            int nextDue = Math.min(fees.dayAt(fees.reached), others.dayAt(others.reached));
            return Math.min(nextDue, payments.dayAt(payments.reached));
        }

        private void load(int lease, int last) {
            fees.clear();
            others.clear();
            payments.clear();
            credit = 0;
            dues.reckon(lease, last);
            int from = roll.leases.at(lease, FROM);
            for (int month = 0; month < MONTHS; month++) {
                int day = Math.max(firstOf(month) + 2, from);
                addDebt(day, RENT_KIND, month, dues.of(month, RENT_KIND));
                addDebt(day, ADVANCE_KIND, month, dues.of(month, ADVANCE_KIND));
            }
            loadSettlements(lease);
            loadCharges(lease);
            loadPayments(lease, books.payments);
            loadPayments(lease, books.used);
        }

        private void addDebt(int day, int kind, int month, int coins) {
            if (coins > 0) {
                others.add(day, kind, month, coins);
            }
        }

        private void loadSettlements(int lease) {
            Table table = books.settlements;
            int count = table.size();
            for (int row = 0; row < count; row++) {
                int coins = table.at(row, COINS);
                if (table.at(row, LEASE) != lease) {
                    continue;
                }
                if (coins > 0) {
                    others.add(table.at(row, DAY), SETTLEMENT_KIND, 0, coins);
                } else {
                    payments.add(table.at(row, DAY), NO_WORD, -coins, -coins);
                }
            }
        }

        private void loadCharges(int lease) {
            Table table = books.charges;
            int count = table.size();
            for (int row = 0; row < count; row++) {
                if (table.at(row, LEASE) == lease) {
                    int kind = table.at(row, MARK);
                    Pile pile = kind == FEE_KIND ? fees : others;
                    pile.add(table.at(row, DAY), kind, 0, table.at(row, COINS));
                }
            }
        }

        private void loadPayments(int lease, Table table) {
            int count = table.size();
            for (int row = 0; row < count; row++) {
                if (table.at(row, LEASE) == lease) {
                    int word = table.at(row, MARK);
                    int coins = table.at(row, COINS);
                    payments.add(table.at(row, DAY), word == NONE ? NO_WORD : word, coins, coins);
                }
            }
        }

        private void book(int day) {
            fees.reach(day);
            others.reach(day);
            credit = others.cover(fees.cover(credit));
            int unbooked = payments.reached;
            payments.reach(day);
            for (int place = unbooked; place < payments.reached; place++) {
                int left = payments.coinsAt(place);
                int word = payments.secondAt(place);
                if (word < NO_WORD) {
                    left = others.coverRent(word, left);
                }
                credit += others.cover(fees.cover(left));
            }
        }

        private void tally(int day) {
            int open = 0;
            int count = 0;
            int ofRent = 0;
            int late = 0;
            for (int place = fees.closed; place < fees.reached; place++) {
                open += fees.openAt(place);
                count += fees.openAt(place) > 0 ? 1 : 0;
            }
            for (int place = others.closed; place < others.reached; place++) {
                int part = others.openAt(place);
                int kind = others.secondAt(place);
                open += part;
                count += part > 0 ? 1 : 0;
                ofRent += kind <= ADVANCE_KIND ? part : 0;
                late += kind <= SETTLEMENT_KIND && others.dayAt(place) < day ? part : 0;
            }
            if (day >= 0 && day < DAYS) {
                owed[day] = open;
                credits[day] = credit;
                rentOpen[day] = ofRent;
                openCount[day] = count;
                overdue[day] = late;
            }
        }

        /** The days behind this one, till ahead of the next one, are as it is. */
        private void repeat(int from, int next) {
            for (int day = Math.max(from + 1, 1); day < next && day < DAYS; day++) {
                owed[day] = owed[day - 1];
                credits[day] = credits[day - 1];
                rentOpen[day] = rentOpen[day - 1];
                openCount[day] = openCount[day - 1];
                overdue[day] = overdue[day - 1];
            }
        }

        private static int on(int[] values, int day) {
            return day >= 0 && day < values.length ? values[day] : 0;
        }

        int owedOn(int day) {
            return on(owed, day);
        }

        int creditOn(int day) {
            return on(credits, day);
        }

        int rentOpenOn(int day) {
            return on(rentOpen, day);
        }

        int openCountOn(int day) {
            return on(openCount, day);
        }

        int overdueOn(int day) {
            return on(overdue, day);
        }

        boolean isPressingOn(int day) {
            int open = on(rentOpen, day);
            return open > 0 && open >= 2 * roll.rentOn(seenLease, day);
        }

        int firstPressing(int from, int to) {
            roll.rents.spread(seenLease, days);
            for (int day = Math.max(from, 0); day <= to && day < DAYS; day++) {
                if (rentOpen[day] > 0 && rentOpen[day] >= 2 * days[day]) {
                    return day;
                }
            }
            return NONE;
        }

        /** What is open, behind the day till which was looked, of the rent of a month. */
        int openRentOf(int month) {
            int place = others.placeOfRent(month);
            return place < others.reached ? others.openAt(place) : 0;
        }

        /** Whether, within the grace, nothing stays open of rents and advances due by the day of the termination. */
        boolean isCleared(int lease, int last, int told) {
            look(lease, last, Math.min(told + GRACE, LAST_DAY));
            int open = 0;
            for (int place = 0; place < others.reached; place++) {
                boolean isRent = others.secondAt(place) <= ADVANCE_KIND;
                open += isRent && others.dayAt(place) <= told ? others.openAt(place) : 0;
            }
            return open == 0;
        }

        long unitsOver(int from, int to) {
            books.rates.spread(0, days);
            long units = 0;
            for (int day = Math.max(from, 0); day <= to && day < DAYS; day++) {
                units += (long) overdue[day] * days[day];
            }
            return units;
        }

        boolean isLeaseSound(int lease, int last) {
            look(lease, last, LAST_DAY);
            long paid = 0;
            for (int place = 0; place < payments.size; place++) {
                paid += payments.coinsAt(place);
            }
            boolean isWithin = isWithinDebts(fees) && isWithinDebts(others);
            boolean isPaid = paid == coveredOf(fees) + coveredOf(others) + credit;
            return isWithin && isPaid && unitsOver(0, 900) + unitsOver(901, LAST_DAY) == unitsOver(0, LAST_DAY);
        }

        private static long coveredOf(Pile pile) {
            long covered = 0;
            for (int place = 0; place < pile.size; place++) {
                covered += pile.coinsAt(place) - pile.openAt(place);
            }
            return covered;
        }

        private static boolean isWithinDebts(Pile pile) {
            for (int place = 0; place < pile.size; place++) {
                if (pile.openAt(place) < 0 || pile.openAt(place) > pile.coinsAt(place)) {
                    return false;
                }
            }
            return true;
        }
    }

    /** Bills, and who bears what of one. */
    private static final class Costs {
        private final Journal journal;
        private final Roll roll;
        private final Table bills;
        private final long[] exact;
        private final int[] shares;
        private final long[] metered;
        private final int[] weights;
        private final int[] bearers;
        private final int[] runWeights;
        private final int[] runBearers;
        private int seenBill;
        private int seenVersion;

        Costs(Journal journal, Roll roll) {
            this.journal = journal;
            this.roll = roll;
            bills = new Table(journal, MOST_BILLS, BILL_COLUMNS);
            exact = new long[BEARERS];
            shares = new int[BEARERS];
            metered = new long[BEARERS];
            weights = new int[MOST_FLATS];
            bearers = new int[MOST_FLATS];
            runWeights = new int[MOST_FLATS];
            runBearers = new int[MOST_FLATS];
            seenBill = NONE;
        }

        boolean isOf(int bill, int house, int year) {
            return bills.at(bill, HOUSE) == house && bills.at(bill, TO) / YEAR_DAYS == year;
        }

        private int laidCoins(int bill) {
            return bills.at(bill, BILL_COINS) * bills.at(bill, LAID) / 100;
        }

        /** Reckons all shares of a bill; what is asked then is of this bill. */
        void look(int bill) {
            if (seenBill == bill && seenVersion == journal.version) {
                return;
            }
            seenBill = bill;
            seenVersion = journal.version;
            Arrays.fill(exact, 0);
            int laid = laidCoins(bill);
            int key = bills.at(bill, KEY);
            if (key == METER_KEY) {
                addMeter(bill, laid);
            } else if (key == MIXED_KEY) {
                addMeter(bill, laid / 2);
                addRuns(bill, AREA_KEY, laid - laid / 2);
            } else {
                addRuns(bill, key, laid);
            }
            reckonShares(laid, bills.at(bill, BILL_COINS) - laid);
        }

        private void addRuns(int bill, int key, int coins) {
            int to = bills.at(bill, TO);
            int from = bills.at(bill, FROM);
            int run = 0;
            int day = from;
            while (day <= to) {
                int next = Math.min(Math.max(weigh(bills.at(bill, HOUSE), key, day), day + 1), to + 1);
                if (run > 0 && isOtherRun()) {
                    addRun(coins, run, to - from + 1);
                    run = 0;
                }
                System.arraycopy(weights, 0, runWeights, 0, MOST_FLATS);
                System.arraycopy(bearers, 0, runBearers, 0, MOST_FLATS);
                run += next - day;
                day = next;
            }
            addRun(coins, run, to - from + 1);
        }

        /** Finds weights and bearers of a day; returns the first day behind it on which they can be others. */
        private int weigh(int house, int key, int day) {
            int next = DAYS;
            for (int flat = 0; flat < MOST_FLATS; flat++) {
                weights[flat] = 0;
                bearers[flat] = OWNER;
                if (flat >= roll.flats.size() || roll.houseOfFlat(flat) != house) {
                    continue;
                }
                int lease = roll.tenantOn(flat, day);
                next = Math.min(next, roll.nextTurn(flat, day));
                bearers[flat] = lease == NONE ? OWNER : lease;
                if (key == AREA_KEY) {
                    weights[flat] = roll.areas.on(flat, day);
                    next = Math.min(next, roll.areas.nextChange(flat, day));
                } else if (key == FLATS_KEY) {
                    weights[flat] = 1;
                } else if (key == HEADS_KEY && lease != NONE) {
                    weights[flat] = roll.headcounts.on(lease, day);
                    next = Math.min(next, roll.headcounts.nextChange(lease, day));
                }
            }
            return next;
        }

        private boolean isOtherRun() {
            for (int flat = 0; flat < MOST_FLATS; flat++) {
                if (weights[flat] != runWeights[flat] || bearers[flat] != runBearers[flat]) {
                    return true;
                }
            }
            return false;
        }

        private void addRun(int coins, int run, int span) {
            long sum = 0;
            for (int flat = 0; flat < MOST_FLATS; flat++) {
                sum += runWeights[flat];
            }
            long part = MILLION * coins * run;
            if (span <= 0) {
                return;
            }
            if (sum <= 0) {
                addExact(OWNER, part / span);
                return;
            }
            for (int flat = 0; flat < MOST_FLATS; flat++) {
                addExact(runBearers[flat], part * runWeights[flat] / (span * sum));
            }
        }

        private void addExact(int bearer, long millionths) {
            if (bearer >= 0 && bearer < BEARERS) {
                exact[bearer] += millionths;
            }
        }

        private void addMeter(int bill, int coins) {
            Arrays.fill(metered, 0);
            int house = bills.at(bill, HOUSE);
            for (int flat = 0; flat < roll.flats.size(); flat++) {
                if (roll.houseOfFlat(flat) == house) {
                    addMetered(flat, bills.at(bill, FROM), bills.at(bill, TO));
                }
            }
            long sum = 0;
            for (int bearer = 0; bearer < BEARERS; bearer++) {
                sum += metered[bearer];
            }
            if (sum <= 0) {
                addExact(OWNER, MILLION * coins);
                return;
            }
            for (int bearer = 0; bearer < BEARERS; bearer++) {
                addExact(bearer, MILLION * coins * metered[bearer] / sum);
            }
        }

        /** Adds a flat's weights, stretch by stretch of one bearer: what the days between tell cancels out. */
        private void addMetered(int flat, int from, int to) {
            int day = from;
            while (day <= to) {
                int lease = roll.tenantOn(flat, day);
                int next = Math.min(Math.max(roll.nextTurn(flat, day), day + 1), to + 1);
                int bearer = lease == NONE ? OWNER : lease;
                if (bearer >= 0 && bearer < BEARERS) {
                    metered[bearer] += roll.readOn(flat, Math.min(next, LAST_DAY)) - roll.readOn(flat, day);
                }
                day = next;
            }
        }

        private void reckonShares(int laid, int notLaid) {
            int left = laid;
            for (int bearer = 0; bearer < BEARERS; bearer++) {
                shares[bearer] = (int) (exact[bearer] / MILLION);
                left -= shares[bearer];
            }
            int served = 0;
            for (int round = 0; round < BEARERS && left > 0; round++) {
                int bearer = greatestPart(served);
                if (bearer >= 0 && bearer < BEARERS) {
                    shares[bearer]++;
                    served |= 1 << bearer;
                    left--;
                }
            }
            shares[OWNER] += notLaid;
        }

        /** The first one, not served, with the greatest part behind the point; NONE if all that bear are served. */
        private int greatestPart(int served) {
            int greatest = NONE;
            long greatestPart = NONE;
            for (int bearer = 0; bearer < BEARERS; bearer++) {
                boolean isIn = exact[bearer] > 0 && (served & 1 << bearer) == 0;
                if (isIn && exact[bearer] % MILLION > greatestPart) {
                    greatest = bearer;
                    greatestPart = exact[bearer] % MILLION;
                }
            }
            return greatest;
        }

        int shareOf(int lease) {
            int bearer = lease == NONE ? OWNER : lease;
            return bearer >= 0 && bearer < BEARERS ? shares[bearer] : 0;
        }

        long exactOf(int lease) {
            int bearer = lease == NONE ? OWNER : lease;
            return bearer >= 0 && bearer < BEARERS ? exact[bearer] : 0;
        }

        int sharesOfLeases() {
            int sum = 0;
            for (int lease = 0; lease < MOST_LEASES; lease++) {
                sum += shares[lease];
            }
            return sum;
        }

        boolean isSoundBill() {
            int coins = bills.at(seenBill, BILL_COINS);
            int laid = laidCoins(seenBill);
            boolean isSound = sharesOfLeases() + shares[OWNER] == coins;
            for (int bearer = 0; bearer < BEARERS; bearer++) {
                long notLaid = bearer == OWNER ? coins - laid : 0;
                long apart = (shares[bearer] - notLaid) * MILLION - exact[bearer];
                isSound = isSound && Math.abs(apart) <= MILLION;
            }
            return isSound;
        }
    }

    /** When flats are empty, and which works fit in there. */
    private static final class Planner {
        private final Roll roll;
        private final Table works;
        private final StringBuilder line;
        private final int[] worths;

        Planner(Journal journal, Roll roll) {
            this.roll = roll;
            works = new Table(journal, MOST_WORKS, 4);
            line = new StringBuilder();
            worths = new int[1 << MOST_WORKS];
        }

        String spansOf(int flat) {
            line.setLength(0);
            int day = 0;
            while (day < DAYS) {
                int next = Math.max(roll.nextTurn(flat, day), day + 1);
                if (roll.tenantOn(flat, day) == NONE) {
                    addBlank();
                    line.append(day).append('-').append(next - 1);
                }
                day = next;
            }
            return line.toString();
        }

        private void addBlank() {
            if (line.length() > 0) {
                line.append(' ');
            }
        }

        int freeDaysOf(int flat) {
            int days = 0;
            int day = 0;
            while (day < DAYS) {
                int next = Math.max(roll.nextTurn(flat, day), day + 1);
                days += roll.tenantOn(flat, day) == NONE ? next - day : 0;
                day = next;
            }
            return days;
        }

        String bestOf(int flat) {
            int best = bestSet(flat);
            line.setLength(0);
            for (int work = 0; work < MOST_WORKS; work++) {
                if ((best & 1 << work) != 0) {
                    addBlank();
                    line.append(work);
                }
            }
            return line.toString();
        }

        /** Each set is reckoned from that without its highest work, which is reckoned ahead of it. */
        private int bestSet(int flat) {
            int best = 0;
            for (int work = 0; work < works.size() && work < MOST_WORKS; work++) {
                boolean isFitting = isFitting(flat, work);
                for (int others = 0; others < 1 << work; others++) {
                    int set = others | 1 << work;
                    boolean isPossible = isFitting && worths[others] >= 0 && !isClashing(work, others);
                    worths[set] = isPossible ? worths[others] + works.at(work, WORTH) : NONE;
                    if (isPossible && isBetter(set, best)) {
                        best = set;
                    }
                }
            }
            return best;
        }

        private boolean isFitting(int flat, int work) {
            int from = works.at(work, FROM);
            boolean isEmpty = roll.tenantOn(flat, from) == NONE;
            return works.at(work, FLAT) == flat && isEmpty && roll.nextTurn(flat, from) > works.at(work, TO);
        }

        private boolean isClashing(int work, int others) {
            for (int other = 0; other < work; other++) {
                boolean isApart = works.at(other, TO) < works.at(work, FROM)
                    || works.at(work, TO) < works.at(other, FROM);
                if ((others & 1 << other) != 0 && !isApart) {
                    return true;
                }
            }
            return false;
        }

        private boolean isBetter(int set, int than) {
            if (!isBetween(set, 0, worths.length - 1) || !isBetween(than, 0, worths.length - 1)) {
                return false;
            }
            if (worths[set] != worths[than]) {
                return worths[set] > worths[than];
            }
            int fewer = Integer.bitCount(than) - Integer.bitCount(set);
            if (fewer != 0) {
                return fewer > 0;
            }
            // of as many numbers, the list is less that has the lowest number of those in one of them only
            int apart = set ^ than;
            return (set & apart & -apart) != 0;
        }
    }

    /** Writes and reads what is told as text. */
    private static final class Script {
        private static final int WORDS = 12;
        private static final int NO_NUMBER = -9999999;
        private final Roll roll;
        private final StringBuilder page;
        private int from;

        Script(Roll roll) {
            this.roll = roll;
            page = new StringBuilder();
        }

        String textOf(int lease) {
            write(lease);
            return page.toString();
        }

        void write(int lease) {
            page.setLength(0);
            for (int word = 0; word < WORDS; word += 2) {
                if (word > 0) {
                    page.append(' ');
                }
                page.append(nameAt(word)).append(' ').append(numberAt(lease, word));
            }
        }

        private static String nameAt(int word) {
            switch (word) {
                case 0:
                    return "flat";
                case 2:
                    return "from";
                case 4:
                    return "to";
                case 6:
                    return "heads";
                case 8:
                    return "rent";
                default:
                    return "way";
            }
        }

        private int numberAt(int lease, int word) {
            int first = roll.leases.at(lease, FROM);
            switch (word) {
                case 0:
                    return roll.leases.at(lease, FLAT);
                case 2:
                    return first;
                case 4:
                    return roll.leases.at(lease, TO);
                case 6:
                    return roll.headcounts.on(lease, first);
                case 8:
                    return roll.rents.on(lease, first);
                default:
                    return roll.leases.at(lease, WAY);
            }
        }

        void spoil(int at, int sign) {
            if (at >= 0 && at < page.length()) {
                page.setCharAt(at, sign == 10 ? '-' : sign == 11 ? ' ' : (char) ('0' + sign));
            }
        }

        boolean isTextRight(int lease) {
            write(lease);
            return fault() == NONE;
        }

        /** The first word of the page that is not right or missing, or 12, if there is more; NONE if it is right. */
        int fault() {
            int place = 0;
            for (int word = 0; word < WORDS; word++) {
                int start = skipBlanks(place);
                int end = endOfWord(start);
                if (start >= end || !isWordRight(word, start, end)) {
                    return word;
                }
                place = end;
            }
            return skipBlanks(place) < page.length() ? WORDS : NONE;
        }

        private int skipBlanks(int start) {
            int place = Math.max(start, 0);
            while (place < page.length() && page.charAt(place) == ' ') {
                place++;
            }
            return place;
        }

        private int endOfWord(int start) {
            int place = Math.max(start, 0);
            while (place < page.length() && page.charAt(place) != ' ') {
                place++;
            }
            return place;
        }

        private boolean isWordRight(int word, int start, int end) {
            if (word % 2 == 0) {
                return isName(nameAt(word), start, end);
            }
            int number = readNumber(start, end);
            switch (word) {
                case 1:
                    return isBetween(number, 0, roll.flats.size() - 1);
                case 3:
                    from = number;
                    return isDay(number);
                case 5:
                    return number == NONE || isBetween(number, from, LAST_DAY);
                case 7:
                    return isBetween(number, 1, 6);
                case 9:
                    return isBetween(number, 1, MOST_COINS);
                default:
                    return isBetween(number, 0, 2);
            }
        }

        private boolean isName(String name, int start, int end) {
            if (end - start != name.length() || start < 0 || end > page.length()) {
                return false;
            }
            for (int at = 0; at < name.length(); at++) {
                if (page.charAt(start + at) != name.charAt(at)) {
                    return false;
                }
            }
            return true;
        }

        private int readNumber(int start, int end) {
            boolean isBelow = start >= 0 && start < end && end <= page.length() && page.charAt(start) == '-';
            int first = isBelow ? start + 1 : start;
            if (first < 0 || end > page.length() || !isBetween(end - first, 1, 6)) {
                return NO_NUMBER;
            }
            int number = 0;
            for (int place = first; place < end; place++) {
                int digit = page.charAt(place) - '0';
                if (!isBetween(digit, 0, 9)) {
                    return NO_NUMBER;
                }
                number = number * 10 + digit;
            }
            return isBelow ? -number : number;
        }

        String digitsOf(long number) {
            page.setLength(0);
            long rest = Math.max(number, 0);
            for (int place = 0; place < 20 && (rest > 0 || place == 0); place++) {
                page.append((char) ('0' + (int) (rest % 10)));
                rest = rest / 10;
            }
            return page.reverse().toString();
        }

        /** Millionths as a number with six digits behind the point. */
        String pointed(long millionths) {
            page.setLength(0);
            page.append((int) (millionths / MILLION)).append('.');
            int rest = (int) (millionths % MILLION);
            for (int unit = 100000; unit >= 1; unit = unit / 10) {
                page.append((char) ('0' + rest / unit % 10));
            }
            return page.toString();
        }
    }
}

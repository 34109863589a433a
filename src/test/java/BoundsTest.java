/**
 * "Too small, too large": of each argument the least and the greatest value that is let, and one beyond each;
 * each "Throws" line; which exception goes ahead, and that nothing is changed then.
 */
public final class BoundsTest {
    private static final String ARGUMENT = "IllegalArgumentException";
    private static final String INDEX = "IndexOutOfBoundsException";
    private static final String STATE = "IllegalStateException";

    /** A call on a roll. */
    private interface Ask {
        Object of(Rentroll roll);
    }

    public static void main(String[] args) {
        flat();
        shift();
        lease();
        leaseTo();
        advance();
        headsAndStep();
        freeMonthAndOption();
        notice();
        indexAndClause();
        adjustAndRaise();
        compare();
        defect();
        pay();
        refund();
        rate();
        remindAndTerminate();
        out();
        read();
        bill();
        billSpan();
        settle();
        deposit();
        use();
        giveBack();
        work();
        askedOfFlats();
        askedOfLeases();
        askedOfDues();
        interest();
        textAndSpoiled();
        share();
        settledAndDepositOf();
        owner();
        count();
        firstNamedGoesAhead();
        argumentGoesAheadOfState();
        exceptionGoesAheadOfRefusal();
        stateGoesAheadOfRefusal();
        Check.end("BoundsTest");
    }

    /** Flats 0 and 1 of HOUSE 0, flat 2 of HOUSE 1; LEASE 0 of flat 0 from 40 to 700, LEASE 1 of flat 2, open. */
    private static Rentroll town() {
        Rentroll roll = new Rentroll();
        roll.flat(0, 100);
        roll.flat(0, 50);
        roll.flat(1, 70);
        roll.lease(0, 40, 700, 2, 300, 0);
        roll.lease(2, 0, -1, 1, 200, 0);
        roll.bill(0, 0, 0, 364, 1000, 90);
        return roll;
    }

    /** On a town this call is let, and answers so. */
    private static void let(Ask ask, Object due) {
        Rentroll roll = town();
        Check.same("call", Check.outcome(() -> ask.of(roll)), due);
    }

    /** On a town this call throws so, and changes nothing. */
    private static void not(String exception, Ask ask) {
        Rentroll roll = town();
        Check.stays(roll, () -> ask.of(roll), exception);
    }

    private static void flat() {
        Check.part("promise 2: house 0 to 2, area 1 to 500");
        let(r -> r.flat(0, 7), 3);
        let(r -> r.flat(2, 7), 3);
        let(r -> r.flat(1, 1), 3);
        let(r -> r.flat(1, 500), 3);
        not(ARGUMENT, r -> r.flat(-1, 7));
        not(ARGUMENT, r -> r.flat(3, 7));
        not(ARGUMENT, r -> r.flat(1, 0));
        not(ARGUMENT, r -> r.flat(1, 501));
    }

    private static void shift() {
        Check.part("promise 3: flats that there are, of one HOUSE; area 1 to 500; a DAY");
        let(r -> r.shift(0, 1, 1, 0), 99);
        let(r -> r.shift(1, 0, 49, 1824), 1);
        let(r -> r.shift(0, 1, 500, 5), -9);
        not(INDEX, r -> r.shift(-1, 1, 5, 5));
        not(INDEX, r -> r.shift(3, 1, 5, 5));
        not(INDEX, r -> r.shift(0, -1, 5, 5));
        not(INDEX, r -> r.shift(0, 3, 5, 5));
        not(ARGUMENT, r -> r.shift(0, 0, 5, 5));
        not(ARGUMENT, r -> r.shift(0, 2, 5, 5));
        not(ARGUMENT, r -> r.shift(2, 1, 5, 5));
        not(ARGUMENT, r -> r.shift(0, 1, 0, 5));
        not(ARGUMENT, r -> r.shift(0, 1, 501, 5));
        not(ARGUMENT, r -> r.shift(0, 1, 5, -1));
        not(ARGUMENT, r -> r.shift(0, 1, 5, 1825));
        // 500 can be SHIFTED where there is more
        Rentroll roll = new Rentroll();
        roll.flat(0, 500);
        roll.flat(0, 2);
        roll.shift(1, 0, 1, 0);
        Check.eq(roll.shift(0, 1, 500, 0), 1);
        Check.eq(roll.area(1, 0), 501);
    }

    private static void lease() {
        Check.part("promise 4: flat, from, heads 1 to 6, rent 1 to 100000, way 0 to 2");
        let(r -> r.lease(1, 0, 9, 1, 5, 0), 2);
        let(r -> r.lease(1, 1824, -1, 1, 5, 0), 2);
        let(r -> r.lease(0, 0, 9, 6, 5, 0), 2);
        let(r -> r.lease(1, 0, 9, 3, 1, 0), 2);
        let(r -> r.lease(1, 0, 9, 3, 100000, 0), 2);
        let(r -> r.lease(1, 0, 9, 3, 5, 2), 2);
        let(r -> r.lease(2, 0, 9, 3, 5, 0), -9);
        not(INDEX, r -> r.lease(-1, 0, 9, 3, 5, 0));
        not(INDEX, r -> r.lease(3, 0, 9, 3, 5, 0));
        not(ARGUMENT, r -> r.lease(1, -1, 9, 3, 5, 0));
        not(ARGUMENT, r -> r.lease(1, 1825, -1, 3, 5, 0));
        not(ARGUMENT, r -> r.lease(1, 0, 9, 0, 5, 0));
        not(ARGUMENT, r -> r.lease(1, 0, 9, 7, 5, 0));
        not(ARGUMENT, r -> r.lease(1, 0, 9, 3, 0, 0));
        not(ARGUMENT, r -> r.lease(1, 0, 9, 3, 100001, 0));
        not(ARGUMENT, r -> r.lease(1, 0, 9, 3, 5, -1));
        not(ARGUMENT, r -> r.lease(1, 0, 9, 3, 5, 3));
    }

    private static void leaseTo() {
        Check.part("promise 4: TO is from to 1824, or NONE");
        let(r -> r.lease(1, 10, 10, 3, 5, 0), 2);
        let(r -> r.lease(1, 0, 0, 3, 5, 0), 2);
        let(r -> r.lease(1, 1824, 1824, 3, 5, 0), 2);
        let(r -> r.lease(1, 10, 1824, 3, 5, 0), 2);
        let(r -> r.lease(1, 10, -1, 3, 5, 0), 2);
        not(ARGUMENT, r -> r.lease(1, 10, 9, 3, 5, 0));
        not(ARGUMENT, r -> r.lease(1, 1824, 1823, 3, 5, 0));
        not(ARGUMENT, r -> r.lease(1, 10, 1825, 3, 5, 0));
        not(ARGUMENT, r -> r.lease(1, 10, -2, 3, 5, 0));
    }

    private static void advance() {
        Check.part("promise 5: coins 0 to 100000");
        let(r -> r.advance(0, 0), 0);
        let(r -> r.advance(1, 100000), 0);
        not(INDEX, r -> r.advance(-1, 5));
        not(INDEX, r -> r.advance(2, 5));
        not(ARGUMENT, r -> r.advance(0, -1));
        not(ARGUMENT, r -> r.advance(0, 100001));
    }

    private static void headsAndStep() {
        Check.part("promise 6: a DAY, FROM or later, heads 1 to 6");
        let(r -> r.heads(0, 40, 1), 2);
        let(r -> r.heads(0, 1824, 6), 2);
        let(r -> r.heads(1, 0, 6), 1);
        not(INDEX, r -> r.heads(-1, 50, 1));
        not(INDEX, r -> r.heads(2, 50, 1));
        not(ARGUMENT, r -> r.heads(0, 39, 1));
        not(ARGUMENT, r -> r.heads(1, -1, 1));
        not(ARGUMENT, r -> r.heads(0, 1825, 1));
        not(ARGUMENT, r -> r.heads(0, 50, 0));
        not(ARGUMENT, r -> r.heads(0, 50, 7));
        Check.part("promise 7: a DAY, FROM or later, rent 1 to 100000");
        let(r -> r.step(0, 40, 1), 300);
        let(r -> r.step(0, 1824, 100000), 300);
        let(r -> r.step(1, 0, 5), 200);
        not(INDEX, r -> r.step(-1, 50, 5));
        not(INDEX, r -> r.step(2, 50, 5));
        not(ARGUMENT, r -> r.step(0, 39, 5));
        not(ARGUMENT, r -> r.step(1, -1, 5));
        not(ARGUMENT, r -> r.step(0, 1825, 5));
        not(ARGUMENT, r -> r.step(0, 50, 0));
        not(ARGUMENT, r -> r.step(0, 50, 100001));
    }

    private static void freeMonthAndOption() {
        Check.part("promise 8: month 0 to 59");
        let(r -> r.freeMonth(0, 0), 1);
        let(r -> r.freeMonth(1, 59), 1);
        not(INDEX, r -> r.freeMonth(-1, 5));
        not(INDEX, r -> r.freeMonth(2, 5));
        not(ARGUMENT, r -> r.freeMonth(0, -1));
        not(ARGUMENT, r -> r.freeMonth(0, 60));
        Check.part("promise 9: days 1 to 1000");
        let(r -> r.option(0, 1), 701);
        let(r -> r.option(0, 1000), 1700);
        let(r -> r.option(1, 1000), -9);
        not(INDEX, r -> r.option(-1, 5));
        not(INDEX, r -> r.option(2, 5));
        not(ARGUMENT, r -> r.option(0, 0));
        not(ARGUMENT, r -> r.option(0, 1001));
    }

    private static void notice() {
        Check.part("promise 10: a DAY");
        let(r -> r.notice(1, 0), 89);
        let(r -> r.notice(1, 1824), -9);
        not(INDEX, r -> r.notice(-1, 50));
        not(INDEX, r -> r.notice(2, 50));
        not(ARGUMENT, r -> r.notice(1, -1));
        not(ARGUMENT, r -> r.notice(1, 1825));
    }

    private static void indexAndClause() {
        Check.part("promise 11: month 0 to 59, value 1 to 10000");
        let(r -> r.index(0, 1), -1);
        let(r -> r.index(59, 10000), -1);
        not(ARGUMENT, r -> r.index(-1, 5));
        not(ARGUMENT, r -> r.index(60, 5));
        not(ARGUMENT, r -> r.index(5, 0));
        not(ARGUMENT, r -> r.index(5, 10001));
        Check.part("promise 12: bar and top 0 to 50");
        let(r -> r.clause(0, 0, 50), 1);
        let(r -> r.clause(1, 50, 0), 1);
        not(INDEX, r -> r.clause(-1, 5, 5));
        not(INDEX, r -> r.clause(2, 5, 5));
        not(ARGUMENT, r -> r.clause(0, -1, 5));
        not(ARGUMENT, r -> r.clause(0, 51, 5));
        not(ARGUMENT, r -> r.clause(0, 5, -1));
        not(ARGUMENT, r -> r.clause(0, 5, 51));
    }

    private static void adjustAndRaise() {
        Check.part("promise 13: month 0 to 59, a CLAUSE");
        let(r -> r.clause(1, 0, 50) + r.index(0, 100) + r.index(59, 110) + r.adjust(1, 59), 1 - 1 - 1 + 220);
        let(r -> r.clause(1, 0, 50) + r.index(0, 100) + r.adjust(1, 0), 1 - 1 - 9);
        not(INDEX, r -> r.adjust(-1, 5));
        not(INDEX, r -> r.adjust(2, 5));
        not(STATE, r -> r.adjust(0, 0));
        not(STATE, r -> r.adjust(0, 59));
        not(ARGUMENT, r -> r.adjust(0, -1));
        not(ARGUMENT, r -> r.adjust(0, 60));
        Check.part("promise 15: month 0 to 59");
        let(r -> r.compare(1, 3) + r.compare(1, 3) + r.compare(1, 3) + r.raise(1, 59), 1 + 2 + 3 + 210);
        let(r -> r.raise(1, 0), -9);
        not(INDEX, r -> r.raise(-1, 5));
        not(INDEX, r -> r.raise(2, 5));
        not(ARGUMENT, r -> r.raise(0, -1));
        not(ARGUMENT, r -> r.raise(0, 60));
    }

    private static void compare() {
        Check.part("promise 14: house 0 to 2, coins 1 to 1000");
        let(r -> r.compare(0, 1), 1);
        let(r -> r.compare(2, 1000), 1);
        not(ARGUMENT, r -> r.compare(-1, 5));
        not(ARGUMENT, r -> r.compare(3, 5));
        not(ARGUMENT, r -> r.compare(0, 0));
        not(ARGUMENT, r -> r.compare(0, 1001));
    }

    private static void defect() {
        Check.part("promise 16: from 0 to 1824, to from to 1824, percent 1 to 100");
        let(r -> r.defect(0, 0, 0, 1), 1);
        let(r -> r.defect(0, 1824, 1824, 100), 1);
        let(r -> r.defect(1, 0, 1824, 5), 1);
        let(r -> r.defect(1, 50, 50, 5), 1);
        not(INDEX, r -> r.defect(-1, 5, 6, 5));
        not(INDEX, r -> r.defect(2, 5, 6, 5));
        not(ARGUMENT, r -> r.defect(0, -1, 6, 5));
        not(ARGUMENT, r -> r.defect(0, 1825, 1825, 5));
        not(ARGUMENT, r -> r.defect(0, 50, 49, 5));
        not(ARGUMENT, r -> r.defect(0, 50, 1825, 5));
        not(ARGUMENT, r -> r.defect(0, 50, 51, 0));
        not(ARGUMENT, r -> r.defect(0, 50, 51, 101));
    }

    private static void pay() {
        Check.part("promise 17: day FROM to 1824, coins 1 to 100000, word NONE to 59");
        let(r -> r.pay(0, 40, 1, -1), 1);
        let(r -> r.pay(0, 1824, 100000, 0), 1);
        let(r -> r.pay(1, 0, 5, 59), 1);
        not(INDEX, r -> r.pay(-1, 50, 5, -1));
        not(INDEX, r -> r.pay(2, 50, 5, -1));
        not(ARGUMENT, r -> r.pay(0, 39, 5, -1));
        not(ARGUMENT, r -> r.pay(1, -1, 5, -1));
        not(ARGUMENT, r -> r.pay(0, 1825, 5, -1));
        not(ARGUMENT, r -> r.pay(0, 50, 0, -1));
        not(ARGUMENT, r -> r.pay(0, 50, 100001, -1));
        not(ARGUMENT, r -> r.pay(0, 50, 5, -2));
        not(ARGUMENT, r -> r.pay(0, 50, 5, 60));
    }

    private static void refund() {
        Check.part("promise 18: a DAY, coins 1 to 100000");
        let(r -> r.refund(0, 0, 1), -9);
        let(r -> r.refund(0, 1824, 1), -9);
        let(r -> r.pay(1, 0, 100, -1) + r.refund(1, 0, 1), 1 + 99);
        let(r -> r.pay(1, 1824, 100000, -1) + r.pay(1, 1824, 12000, -1) + r.refund(1, 1824, 100000), 1 + 2);
        not(INDEX, r -> r.refund(-1, 50, 5));
        not(INDEX, r -> r.refund(2, 50, 5));
        not(ARGUMENT, r -> r.refund(0, -1, 5));
        not(ARGUMENT, r -> r.refund(0, 1825, 5));
        not(ARGUMENT, r -> r.refund(0, 50, 0));
        not(ARGUMENT, r -> r.refund(0, 50, 100001));
    }

    private static void rate() {
        Check.part("promise 19: a DAY, rate 0 to 5000");
        let(r -> r.rate(0, 0), 0);
        let(r -> r.rate(1824, 5000) + r.rate(1824, 0), 5000);
        not(ARGUMENT, r -> r.rate(-1, 5));
        not(ARGUMENT, r -> r.rate(1825, 5));
        not(ARGUMENT, r -> r.rate(5, -1));
        not(ARGUMENT, r -> r.rate(5, 5001));
    }

    private static void remindAndTerminate() {
        Check.part("promise 20: a DAY");
        let(r -> r.remind(1, 0), -9);
        let(r -> r.remind(1, 1824), 1);
        not(INDEX, r -> r.remind(-1, 50));
        not(INDEX, r -> r.remind(2, 50));
        not(ARGUMENT, r -> r.remind(1, -1));
        not(ARGUMENT, r -> r.remind(1, 1825));
        Check.part("promise 21: a DAY");
        let(r -> r.terminate(1, 0), -9);
        let(r -> r.terminate(1, 1824), 1853);
        not(INDEX, r -> r.terminate(-1, 50));
        not(INDEX, r -> r.terminate(2, 50));
        not(ARGUMENT, r -> r.terminate(1, -1));
        not(ARGUMENT, r -> r.terminate(1, 1825));
    }

    private static void out() {
        Check.part("promise 22: a LEASE");
        let(r -> r.out(0), -9);
        let(r -> r.out(1), -9);
        not(INDEX, r -> r.out(-1));
        not(INDEX, r -> r.out(2));
    }

    private static void read() {
        Check.part("promise 23: a FLAT, a DAY, value 0 to 100000");
        let(r -> r.read(0, 0, 0), 1);
        let(r -> r.read(2, 1824, 100000), 1);
        not(INDEX, r -> r.read(-1, 5, 5));
        not(INDEX, r -> r.read(3, 5, 5));
        not(ARGUMENT, r -> r.read(0, -1, 5));
        not(ARGUMENT, r -> r.read(0, 1825, 5));
        not(ARGUMENT, r -> r.read(0, 5, -1));
        not(ARGUMENT, r -> r.read(0, 5, 100001));
    }

    private static void bill() {
        Check.part("promise 24: house 0 to 2, key 0 to 4, coins 1 to 100000, laid 0 to 100");
        let(r -> r.bill(0, 0, 5, 6, 1, 0), 1);
        let(r -> r.bill(2, 4, 5, 6, 100000, 100), 1);
        not(ARGUMENT, r -> r.bill(-1, 0, 5, 6, 5, 5));
        not(ARGUMENT, r -> r.bill(3, 0, 5, 6, 5, 5));
        not(ARGUMENT, r -> r.bill(0, -1, 5, 6, 5, 5));
        not(ARGUMENT, r -> r.bill(0, 5, 5, 6, 5, 5));
        not(ARGUMENT, r -> r.bill(0, 0, 5, 6, 0, 5));
        not(ARGUMENT, r -> r.bill(0, 0, 5, 6, 100001, 5));
        not(ARGUMENT, r -> r.bill(0, 0, 5, 6, 5, -1));
        not(ARGUMENT, r -> r.bill(0, 0, 5, 6, 5, 101));
    }

    private static void billSpan() {
        Check.part("promise 24: from 0 to 1824, to from to 1824");
        let(r -> r.bill(0, 0, 0, 0, 5, 5), 1);
        let(r -> r.bill(0, 0, 1824, 1824, 5, 5), 1);
        let(r -> r.bill(0, 0, 0, 1824, 5, 5), 1);
        let(r -> r.bill(0, 0, 50, 50, 5, 5), 1);
        not(ARGUMENT, r -> r.bill(0, 0, -1, 6, 5, 5));
        not(ARGUMENT, r -> r.bill(0, 0, 1825, 1825, 5, 5));
        not(ARGUMENT, r -> r.bill(0, 0, 50, 49, 5, 5));
        not(ARGUMENT, r -> r.bill(0, 0, 50, 1825, 5, 5));
    }

    private static void settle() {
        Check.part("promise 25: house 0 to 2, year 0 to 4, a DAY");
        let(r -> r.settle(0, 0, 0), 1);
        let(r -> r.settle(2, 4, 1824), 0);
        not(ARGUMENT, r -> r.settle(-1, 0, 5));
        not(ARGUMENT, r -> r.settle(3, 0, 5));
        not(ARGUMENT, r -> r.settle(0, -1, 5));
        not(ARGUMENT, r -> r.settle(0, 5, 5));
        not(ARGUMENT, r -> r.settle(0, 0, -1));
        not(ARGUMENT, r -> r.settle(0, 0, 1825));
    }

    private static void deposit() {
        Check.part("promise 26: a DAY, coins 1 to 100000");
        // a DAY ahead of FROM is let here
        let(r -> r.deposit(0, 0, 1), 1);
        let(r -> r.deposit(0, 1824, 100000), 100000);
        not(INDEX, r -> r.deposit(-1, 50, 5));
        not(INDEX, r -> r.deposit(2, 50, 5));
        not(ARGUMENT, r -> r.deposit(0, -1, 5));
        not(ARGUMENT, r -> r.deposit(0, 1825, 5));
        not(ARGUMENT, r -> r.deposit(0, 50, 0));
        not(ARGUMENT, r -> r.deposit(0, 50, 100001));
    }

    private static void use() {
        Check.part("promise 27: day FROM to 1824, coins 1 to 100000");
        let(r -> r.deposit(0, 0, 5) + r.use(0, 40, 1), 5 + 4);
        let(r -> r.deposit(0, 0, 100000) + r.use(0, 1824, 100000), 100000);
        not(INDEX, r -> r.use(-1, 50, 5));
        not(INDEX, r -> r.use(2, 50, 5));
        not(ARGUMENT, r -> r.use(0, 39, 5));
        not(ARGUMENT, r -> r.use(1, -1, 5));
        not(ARGUMENT, r -> r.use(0, 1825, 5));
        not(ARGUMENT, r -> r.use(0, 50, 0));
        not(ARGUMENT, r -> r.use(0, 50, 100001));
    }

    private static void giveBack() {
        Check.part("promise 28: a DAY");
        let(r -> r.giveBack(0, 0), -9);
        let(r -> r.giveBack(0, 1824), 0);
        not(INDEX, r -> r.giveBack(-1, 800));
        not(INDEX, r -> r.giveBack(2, 800));
        not(ARGUMENT, r -> r.giveBack(0, -1));
        not(ARGUMENT, r -> r.giveBack(0, 1825));
    }

    private static void work() {
        Check.part("promise 29: a FLAT, from 0 to 1824, to from to 1824, worth 1 to 1000");
        let(r -> r.work(0, 0, 0, 1), 0);
        let(r -> r.work(2, 1824, 1824, 1000), 0);
        let(r -> r.work(1, 0, 1824, 5), 0);
        not(INDEX, r -> r.work(-1, 5, 6, 5));
        not(INDEX, r -> r.work(3, 5, 6, 5));
        not(ARGUMENT, r -> r.work(0, -1, 6, 5));
        not(ARGUMENT, r -> r.work(0, 1825, 1825, 5));
        not(ARGUMENT, r -> r.work(0, 5, 4, 5));
        not(ARGUMENT, r -> r.work(0, 5, 1825, 5));
        not(ARGUMENT, r -> r.work(0, 5, 6, 0));
        not(ARGUMENT, r -> r.work(0, 5, 6, 1001));
    }

    private static void askedOfFlats() {
        Check.part("promises 32, 33, 43, 48, 49: a FLAT, a DAY");
        let(r -> r.area(0, 0), 100);
        let(r -> r.area(2, 1824), 70);
        not(INDEX, r -> r.area(-1, 5));
        not(INDEX, r -> r.area(3, 5));
        not(ARGUMENT, r -> r.area(0, -1));
        not(ARGUMENT, r -> r.area(0, 1825));
        let(r -> r.tenant(2, 0), 1);
        let(r -> r.tenant(2, 1824), 1);
        not(INDEX, r -> r.tenant(-1, 5));
        not(INDEX, r -> r.tenant(3, 5));
        not(ARGUMENT, r -> r.tenant(0, -1));
        not(ARGUMENT, r -> r.tenant(0, 1825));
        let(r -> r.reading(0, 0), 0);
        let(r -> r.reading(2, 1824), 0);
        not(INDEX, r -> r.reading(-1, 5));
        not(INDEX, r -> r.reading(3, 5));
        not(ARGUMENT, r -> r.reading(0, -1));
        not(ARGUMENT, r -> r.reading(0, 1825));
        let(r -> r.free(0), "0-39 701-1824");
        let(r -> r.free(2), "");
        not(INDEX, r -> r.free(-1));
        not(INDEX, r -> r.free(3));
        let(r -> r.best(0), "");
        let(r -> r.best(2), "");
        not(INDEX, r -> r.best(-1));
        not(INDEX, r -> r.best(3));
    }

    private static void askedOfLeases() {
        Check.part("promise 34: what 0 to 11");
        let(r -> r.ofLease(0, 0), 40);
        let(r -> r.ofLease(1, 11), 0);
        not(INDEX, r -> r.ofLease(-1, 0));
        not(INDEX, r -> r.ofLease(2, 0));
        not(ARGUMENT, r -> r.ofLease(0, -1));
        not(ARGUMENT, r -> r.ofLease(0, 12));
        Check.part("promise 35: a DAY");
        let(r -> r.rentOf(0, 0), 0);
        let(r -> r.rentOf(0, 1824), 300);
        not(INDEX, r -> r.rentOf(-1, 5));
        not(INDEX, r -> r.rentOf(2, 5));
        not(ARGUMENT, r -> r.rentOf(0, -1));
        not(ARGUMENT, r -> r.rentOf(0, 1825));
        Check.part("promise 40: by is a DAY");
        let(r -> r.pressing(1, 0), -1);
        let(r -> r.pressing(1, 1824), 33);
        not(INDEX, r -> r.pressing(-1, 5));
        not(INDEX, r -> r.pressing(2, 5));
        not(ARGUMENT, r -> r.pressing(0, -1));
        not(ARGUMENT, r -> r.pressing(0, 1825));
    }

    private static void askedOfDues() {
        Check.part("promise 36: month 0 to 59, kind 0 or 1");
        let(r -> r.due(1, 0, 0), 200);
        let(r -> r.due(1, 59, 1), 0);
        not(INDEX, r -> r.due(-1, 5, 0));
        not(INDEX, r -> r.due(2, 5, 0));
        not(ARGUMENT, r -> r.due(0, -1, 0));
        not(ARGUMENT, r -> r.due(0, 60, 0));
        not(ARGUMENT, r -> r.due(0, 5, -1));
        not(ARGUMENT, r -> r.due(0, 5, 2));
        Check.part("promise 37: a DAY, what 0 to 4");
        let(r -> r.owed(1, 0, 0), 0);
        let(r -> r.owed(1, 1824, 4), 1);
        not(INDEX, r -> r.owed(-1, 5, 0));
        not(INDEX, r -> r.owed(2, 5, 0));
        not(ARGUMENT, r -> r.owed(0, -1, 0));
        not(ARGUMENT, r -> r.owed(0, 1825, 0));
        not(ARGUMENT, r -> r.owed(0, 5, -1));
        not(ARGUMENT, r -> r.owed(0, 5, 5));
        Check.part("promise 38: month 0 to 59, a DAY");
        let(r -> r.open(1, 0, 0), 0);
        let(r -> r.open(1, 59, 1824), 200);
        not(INDEX, r -> r.open(-1, 5, 5));
        not(INDEX, r -> r.open(2, 5, 5));
        not(ARGUMENT, r -> r.open(0, -1, 5));
        not(ARGUMENT, r -> r.open(0, 60, 5));
        not(ARGUMENT, r -> r.open(0, 5, -1));
        not(ARGUMENT, r -> r.open(0, 5, 1825));
    }

    private static void interest() {
        Check.part("promise 39: from 0 to 1824, to from to 1824");
        let(r -> r.interest(1, 0, 0, true), "0");
        let(r -> r.interest(1, 1824, 1824, false), "0");
        let(r -> r.interest(1, 0, 1824, true), "0");
        let(r -> r.interest(1, 50, 50, true), "0");
        not(INDEX, r -> r.interest(-1, 5, 6, true));
        not(INDEX, r -> r.interest(2, 5, 6, true));
        not(ARGUMENT, r -> r.interest(0, -1, 6, true));
        not(ARGUMENT, r -> r.interest(0, 1825, 1825, true));
        not(ARGUMENT, r -> r.interest(0, 50, 49, false));
        not(ARGUMENT, r -> r.interest(0, 50, 1825, false));
    }

    private static void textAndSpoiled() {
        Check.part("promise 41: a LEASE");
        let(r -> r.text(0), "flat 0 from 40 to 700 heads 2 rent 300 way 0");
        let(r -> r.text(1), "flat 2 from 0 to -1 heads 1 rent 200 way 0");
        not(INDEX, r -> r.text(-1));
        not(INDEX, r -> r.text(2));
        Check.part("promise 42: a place of the TEXT, sign 0 to 11");
        let(r -> r.spoiled(0, 0, 0), 0);
        let(r -> r.spoiled(0, 43, 0), -1);
        let(r -> r.spoiled(1, 41, 11), 11);
        not(INDEX, r -> r.spoiled(-1, 5, 5));
        not(INDEX, r -> r.spoiled(2, 5, 5));
        not(INDEX, r -> r.spoiled(0, -1, 5));
        not(INDEX, r -> r.spoiled(0, 44, 5));
        not(INDEX, r -> r.spoiled(1, 42, 5));
        not(ARGUMENT, r -> r.spoiled(0, 5, -1));
        not(ARGUMENT, r -> r.spoiled(0, 5, 12));
    }

    private static void share() {
        Check.part("promises 44 and 45: a BILL, a LEASE or NONE");
        // LAID are 900: 325 of 365 days 600, what is left is the OWNER's
        let(r -> r.share(0, 0), 534);
        let(r -> r.share(0, 1), 0);
        let(r -> r.share(0, -1), 1000 - 534);
        not(INDEX, r -> r.share(-1, 0));
        not(INDEX, r -> r.share(1, 0));
        not(INDEX, r -> r.share(0, -2));
        not(INDEX, r -> r.share(0, 2));
        let(r -> r.exactShare(0, 0), "534.246575");
        let(r -> r.exactShare(0, 1), "0.000000");
        let(r -> r.exactShare(0, -1), "365.753423");
        not(INDEX, r -> r.exactShare(-1, 0));
        not(INDEX, r -> r.exactShare(1, 0));
        not(INDEX, r -> r.exactShare(0, -2));
        not(INDEX, r -> r.exactShare(0, 2));
    }

    private static void settledAndDepositOf() {
        Check.part("promise 46: year 0 to 4");
        let(r -> r.settle(0, 0, 5) + r.settled(0, 0), 1 + 534);
        let(r -> r.settled(1, 4), 0);
        not(INDEX, r -> r.settled(-1, 0));
        not(INDEX, r -> r.settled(2, 0));
        not(ARGUMENT, r -> r.settled(0, -1));
        not(ARGUMENT, r -> r.settled(0, 5));
        Check.part("promise 47: a DAY, what 0 or 1");
        let(r -> r.depositOf(0, 0, 0), 0);
        let(r -> r.depositOf(1, 1824, 1), 0);
        not(INDEX, r -> r.depositOf(-1, 5, 0));
        not(INDEX, r -> r.depositOf(2, 5, 0));
        not(ARGUMENT, r -> r.depositOf(0, -1, 0));
        not(ARGUMENT, r -> r.depositOf(0, 1825, 0));
        not(ARGUMENT, r -> r.depositOf(0, 5, -1));
        not(ARGUMENT, r -> r.depositOf(0, 5, 2));
    }

    private static void owner() {
        Check.part("promise 50: house 0 to 2, year 0 to 4, what 0 to 5");
        let(r -> r.owner(1, 4, 0), 2400);
        let(r -> r.owner(0, 0, 5), 1000 - 534);
        let(r -> r.owner(2, 0, 0), 0);
        not(ARGUMENT, r -> r.owner(-1, 0, 0));
        not(ARGUMENT, r -> r.owner(3, 0, 0));
        not(ARGUMENT, r -> r.owner(0, -1, 0));
        not(ARGUMENT, r -> r.owner(0, 5, 0));
        not(ARGUMENT, r -> r.owner(0, 0, -1));
        not(ARGUMENT, r -> r.owner(0, 0, 6));
    }

    private static void count() {
        Check.part("promise 51: what 0 to 8");
        let(r -> r.count(0), 3);
        let(r -> r.knock() + r.count(8), 2);
        not(ARGUMENT, r -> r.count(-1));
        not(ARGUMENT, r -> r.count(9));
    }

    /** "If several exceptions apply, the one that is named first is thrown": an index goes ahead of an argument. */
    private static void firstNamedGoesAhead() {
        Check.part("the exception that is named first");
        not(INDEX, r -> r.shift(3, 3, 0, -1));
        not(INDEX, r -> r.shift(0, -1, 501, 1825));
        not(INDEX, r -> r.lease(3, -1, -2, 0, 0, 3));
        not(INDEX, r -> r.advance(2, -1));
        not(INDEX, r -> r.heads(2, -1, 0));
        not(INDEX, r -> r.step(2, -1, 0));
        not(INDEX, r -> r.freeMonth(2, 60));
        not(INDEX, r -> r.option(2, 0));
        not(INDEX, r -> r.notice(2, -1));
        not(INDEX, r -> r.clause(2, 51, -1));
        not(INDEX, r -> r.adjust(2, 60));
        not(INDEX, r -> r.raise(2, 60));
        not(INDEX, r -> r.defect(2, -1, -2, 0));
        not(INDEX, r -> r.pay(2, -1, 0, 60));
        not(INDEX, r -> r.refund(2, -1, 0));
        not(INDEX, r -> r.remind(2, -1));
        not(INDEX, r -> r.terminate(2, 1825));
        not(INDEX, r -> r.read(3, -1, -1));
        not(INDEX, r -> r.deposit(2, -1, 0));
        not(INDEX, r -> r.use(2, -1, 0));
        not(INDEX, r -> r.giveBack(2, -1));
        not(INDEX, r -> r.work(3, -1, -2, 0));
        not(INDEX, r -> r.area(3, -1));
        not(INDEX, r -> r.tenant(3, -1));
        not(INDEX, r -> r.ofLease(2, 12));
        not(INDEX, r -> r.rentOf(2, -1));
        not(INDEX, r -> r.due(2, 60, 2));
        not(INDEX, r -> r.owed(2, -1, 5));
        not(INDEX, r -> r.open(2, 60, -1));
        not(INDEX, r -> r.interest(2, 6, 5, true));
        not(INDEX, r -> r.pressing(2, -1));
        not(INDEX, r -> r.spoiled(2, 0, 12));
        not(INDEX, r -> r.spoiled(0, 44, 12));
        not(INDEX, r -> r.reading(3, -1));
        not(INDEX, r -> r.settled(2, 5));
        not(INDEX, r -> r.depositOf(2, -1, 2));
    }

    /** The others are named ahead of IllegalStateException. */
    private static void argumentGoesAheadOfState() {
        Check.part("the exception that is named first, of a full one");
        Rentroll full = new Rentroll();
        for (int flat = 0; flat < 8; flat++) {
            full.flat(0, 5);
        }
        for (int lease = 0; lease < 12; lease++) {
            full.lease(0, lease, lease, 1, 5, 0);
            full.bill(0, 0, 0, 0, 5, 5);
        }
        for (int nine = 0; nine < 9; nine++) {
            full.compare(0, 5);
            full.defect(0, 0, 0, 5);
        }
        for (int work = 0; work < 10; work++) {
            full.work(0, 0, 0, 5);
        }
        Object[][] calls = {
            {Check.outcome(() -> full.flat(0, 501)), ARGUMENT}, {Check.outcome(() -> full.flat(0, 500)), STATE},
            {Check.outcome(() -> full.lease(8, 50, 60, 1, 5, 0)), INDEX},
            {Check.outcome(() -> full.lease(0, 50, 60, 1, 5, 3)), ARGUMENT},
            {Check.outcome(() -> full.lease(0, 50, 60, 1, 5, 2)), STATE},
            {Check.outcome(() -> full.compare(0, 1001)), ARGUMENT},
            {Check.outcome(() -> full.compare(0, 1000)), STATE}, {Check.outcome(() -> full.compare(1, 1000)), 1},
            {Check.outcome(() -> full.defect(12, 0, 0, 101)), INDEX},
            {Check.outcome(() -> full.defect(0, 0, 0, 101)), ARGUMENT},
            {Check.outcome(() -> full.defect(0, 0, 0, 100)), STATE},
            {Check.outcome(() -> full.bill(0, 0, 0, 0, 5, 101)), ARGUMENT},
            {Check.outcome(() -> full.bill(0, 0, 0, 0, 5, 100)), STATE},
            {Check.outcome(() -> full.work(8, 0, 0, 1001)), INDEX},
            {Check.outcome(() -> full.work(0, 0, 0, 1001)), ARGUMENT},
            {Check.outcome(() -> full.work(0, 0, 0, 1000)), STATE},
            {Check.outcome(() -> full.adjust(12, 60)), INDEX}, {Check.outcome(() -> full.adjust(0, 60)), ARGUMENT},
            {Check.outcome(() -> full.adjust(0, 59)), STATE}};
        for (Object[] call : calls) {
            Check.same("call", call[0], call[1]);
        }
    }

    /** "Exceptions go ahead of -9": each call would be refused, too, if its arguments were right. */
    private static void exceptionGoesAheadOfRefusal() {
        Check.part("exceptions ahead of -9");
        let(r -> r.shift(0, 1, 100, 5), -9);
        not(ARGUMENT, r -> r.shift(0, 1, 100, 1825));
        let(r -> r.lease(0, 50, 60, 1, 5, 0), -9);
        not(ARGUMENT, r -> r.lease(0, 50, 60, 1, 5, 3));
        let(r -> r.option(1, 1), -9);
        not(ARGUMENT, r -> r.option(1, 0));
        let(r -> r.notice(0, 39), -9);
        not(ARGUMENT, r -> r.notice(0, -1));
        let(r -> r.raise(0, 59), -9);
        not(ARGUMENT, r -> r.raise(0, 60));
        let(r -> r.refund(0, 50, 5), -9);
        not(ARGUMENT, r -> r.refund(0, 50, 0));
        let(r -> r.remind(0, 0), -9);
        not(ARGUMENT, r -> r.remind(0, -1));
        let(r -> r.terminate(0, 1824), -9);
        not(ARGUMENT, r -> r.terminate(0, 1825));
        let(r -> r.giveBack(1, 1824), -9);
        not(ARGUMENT, r -> r.giveBack(1, 1825));
        let(r -> r.use(1, 5, 5), -9);
        not(ARGUMENT, r -> r.use(1, 5, 0));
        let(r -> r.deposit(0, 50, 5) + r.deposit(0, 49, 5), 5 - 9);
        let(r -> r.deposit(0, 50, 5) + "" + Check.outcome(() -> r.deposit(0, 49, 0)), "5" + ARGUMENT);
        let(r -> r.read(0, 50, 5) + r.read(0, 51, 4), 1 - 9);
        let(r -> r.read(0, 50, 5) + "" + Check.outcome(() -> r.read(0, 51, -1)), "1" + ARGUMENT);
        let(r -> r.clause(1, 0, 0) + r.adjust(1, 5), 1 - 9);
        let(r -> r.clause(1, 0, 0) + "" + Check.outcome(() -> r.adjust(1, 60)), "1" + ARGUMENT);
    }

    /** The twelfth LEASE is there, and a thirteenth would MEET; no CLAUSE is there, and no INDEX is told. */
    private static void stateGoesAheadOfRefusal() {
        Check.part("IllegalStateException ahead of -9");
        Rentroll roll = new Rentroll();
        roll.flat(0, 5);
        roll.lease(0, 100, 1824, 1, 5, 0);
        Check.eq(roll.lease(0, 100, 200, 1, 5, 0), -9);
        for (int lease = 1; lease < 12; lease++) {
            roll.lease(0, lease, lease, 1, 5, 0);
        }
        Check.stays(roll, () -> roll.lease(0, 100, 200, 1, 5, 0), STATE);
        Rentroll other = town();
        Check.stays(other, () -> other.adjust(1, 5), STATE);
        other.clause(1, 5, 5);
        Check.refused(other, () -> other.adjust(1, 5));
    }
}

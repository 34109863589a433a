/** Promises 16 to 22 and 36 to 40: what is due, paid and owed. */
public final class DuesTest {
    public static void main(String[] args) {
        defect();
        pay();
        paymentsOfOneDay();
        wordsOfPayments();
        creditGoesAhead();
        refund();
        rate();
        remind();
        remindBounds();
        terminate();
        cured();
        secondTermination();
        out();
        due();
        dueByWays();
        owed();
        orderOfDebts();
        open();
        interest();
        interestOfKinds();
        pressing();
        Check.end("DuesTest");
    }

    /** An open lease from DAY 0 with a RENT of 300. */
    private static Rentroll withLease() {
        Rentroll roll = new Rentroll();
        roll.flat(0, 50);
        roll.lease(0, 0, -1, 2, 300, 0);
        return roll;
    }

    private static void defect() {
        Check.part("promise 16");
        Rentroll roll = withLease();
        // half of 31 days is 50 percent off: 300 * (31 - 0.5 * 10) / 31 = 251.6
        Check.eq(roll.defect(0, 0, 9, 50), 1);
        Check.eq(roll.due(0, 0, 0), 252);
        // 110 percent off are 100
        Check.eq(roll.defect(0, 0, 9, 60), 2);
        Check.eq(roll.due(0, 0, 0), 203);
        Check.eq(roll.defect(0, 1824, 1824, 100), 3);
        Check.eq(roll.due(0, 59, 0), 290);
        Check.eq(roll.due(0, 1, 0), 300);
        Check.noSuch(() -> roll.defect(1, -1, 0, 0));
        Check.notLet(() -> roll.defect(0, -1, 0, 5));
        Check.notLet(() -> roll.defect(0, 1825, 1825, 5));
        Check.notLet(() -> roll.defect(0, 5, 4, 5));
        Check.notLet(() -> roll.defect(0, 5, 1825, 5));
        Check.notLet(() -> roll.defect(0, 5, 5, 0));
        Check.notLet(() -> roll.defect(0, 5, 5, 101));
        for (int defect = 4; defect <= 9; defect++) {
            Check.eq(roll.defect(0, 500, 500, 1), defect);
        }
        Check.notNow(() -> roll.defect(0, 5, 5, 5));
        Check.notLet(() -> roll.defect(0, 5, 5, 0));
        Check.eq(roll.ofLease(0, 7), 9);
    }

    private static void pay() {
        Check.part("promise 17");
        Rentroll roll = new Rentroll();
        roll.flat(0, 50);
        roll.flat(0, 50);
        roll.lease(0, 10, 40, 2, 300, 0);
        roll.lease(1, 0, -1, 2, 300, 0);
        Check.eq(roll.pay(0, 10, 1, -1), 1);
        Check.eq(roll.pay(0, 1824, 100000, 59), 2);
        Check.eq(roll.pay(1, 0, 5, 0), 1);
        Check.eq(roll.pay(0, 30, 5, 0), 3);
        Check.eq(roll.count(3), 4);
        Check.noSuch(() -> roll.pay(2, -1, 0, 60));
        Check.notLet(() -> roll.pay(0, 9, 5, -1));
        Check.notLet(() -> roll.pay(0, 1825, 5, -1));
        Check.notLet(() -> roll.pay(0, 20, 0, -1));
        Check.notLet(() -> roll.pay(0, 20, 100001, -1));
        Check.notLet(() -> roll.pay(0, 20, 5, -2));
        Check.notLet(() -> roll.pay(0, 20, 5, 60));
        // what is USED of a DEPOSIT is no PAYMENT by pay()
        roll.deposit(0, 10, 50);
        roll.use(0, 20, 50);
        Check.eq(roll.pay(0, 30, 5, 0), 4);
    }

    private static void paymentsOfOneDay() {
        Check.part("promise 17, by words and coins");
        Rentroll roll = withLease();
        // told the other way round: WORD 0 first, then 1, then NONE
        roll.pay(0, 40, 100, -1);
        roll.pay(0, 40, 250, 1);
        roll.pay(0, 40, 200, 0);
        Check.eq(roll.open(0, 0, 40), 0);
        Check.eq(roll.open(0, 1, 40), 50);
        // by rising coins: the first one, 260, leaves 40; of 290 then 250 go to the other MONTH
        Rentroll other = withLease();
        other.pay(0, 40, 290, 1);
        other.pay(0, 40, 260, 1);
        Check.eq(other.open(0, 0, 40), 50);
        Check.eq(other.open(0, 1, 40), 0);
        Check.eq(other.owed(0, 40, 3), 1);
    }

    private static void wordsOfPayments() {
        Check.part("promise 17, words");
        Rentroll roll = withLease();
        roll.advance(0, 50);
        roll.pay(0, 40, 120, 1);
        Check.eq(roll.open(0, 1, 40), 180);
        Check.eq(roll.open(0, 0, 40), 300);
        // a WORD that is not due yet does nothing: in the ORDER
        roll.pay(0, 41, 100, 2);
        Check.eq(roll.open(0, 0, 41), 200);
        // what is left goes in the ORDER too: 180, then 200 of RENT, then 20 of the ADVANCE
        roll.pay(0, 42, 400, 1);
        Check.eq(roll.open(0, 1, 42), 0);
        Check.eq(roll.open(0, 0, 42), 0);
        Check.eq(roll.owed(0, 42, 0), 80);
        Check.eq(roll.owed(0, 42, 3), 2);
        Check.eq(roll.owed(0, 42, 1), 0);
        roll.pay(0, 43, 81, 1);
        Check.eq(roll.owed(0, 43, 0), 0);
        Check.eq(roll.owed(0, 43, 1), 1);
    }

    private static void creditGoesAhead() {
        Check.part("promise 17, credit");
        Rentroll roll = withLease();
        roll.advance(0, 50);
        roll.pay(0, 0, 320, 0);
        // nothing is due on DAY 0: all of it is CREDIT, its WORD is lost
        Check.eq(roll.owed(0, 0, 1), 320);
        Check.eq(roll.owed(0, 1, 1), 320);
        Check.eq(roll.owed(0, 2, 1), 0);
        Check.eq(roll.open(0, 0, 2), 0);
        Check.eq(roll.owed(0, 2, 0), 30);
        // CREDIT first: a PAYMENT with the WORD 1 on DAY 33 finds what CREDIT left
        Rentroll other = withLease();
        other.pay(0, 3, 400, -1);
        other.pay(0, 33, 150, 1);
        Check.eq(other.owed(0, 32, 1), 100);
        Check.eq(other.open(0, 1, 33), 50);
        Check.eq(other.owed(0, 33, 1), 0);
    }

    private static void refund() {
        Check.part("promise 18");
        Rentroll roll = withLease();
        roll.pay(0, 10, 1000, -1);
        Check.eq(roll.refund(0, 10, 701), -9);
        Check.eq(roll.refund(0, 9, 1), -9);
        Check.eq(roll.refund(0, 10, 600), 100);
        Check.eq(roll.owed(0, 10, 0), 0);
        Check.eq(roll.owed(0, 33, 0), 200);
        Check.eq(roll.owed(0, 33, 1), 0);
        Check.eq(roll.refund(0, 20, 100), 0);
        Check.eq(roll.refund(0, 20, 1), -9);
        Check.eq(roll.owed(0, 33, 0), 300);
        Check.eq(roll.count(7), 5);
        Check.noSuch(() -> roll.refund(1, -1, 0));
        Check.notLet(() -> roll.refund(0, -1, 5));
        Check.notLet(() -> roll.refund(0, 1825, 5));
        Check.notLet(() -> roll.refund(0, 5, 0));
        Check.notLet(() -> roll.refund(0, 5, 100001));
        Check.eq(roll.ofLease(0, 8), 0);
    }

    private static void rate() {
        Check.part("promise 19");
        Rentroll roll = new Rentroll();
        Check.eq(roll.rate(100, 500), 0);
        Check.eq(roll.rate(99, 5000), 0);
        Check.eq(roll.rate(150, 0), 500);
        Check.eq(roll.rate(100, 400), 500);
        Check.eq(roll.rate(1824, 1), 0);
        Check.eq(roll.rate(0, 7), 0);
        Check.eq(roll.count(6), 5);
        Check.notLet(() -> roll.rate(-1, 5));
        Check.notLet(() -> roll.rate(1825, 5));
        Check.notLet(() -> roll.rate(5, -1));
        Check.notLet(() -> roll.rate(5, 5001));
        Check.eq(roll.count(6), 5);
    }

    private static void remind() {
        Check.part("promise 20");
        Rentroll roll = withLease();
        // due on DAY 2, that is ahead of DAY 3 only
        Check.eq(roll.remind(0, 2), -9);
        Check.eq(roll.remind(0, 3), 1);
        Check.eq(roll.owed(0, 3, 0), 305);
        Check.eq(roll.owed(0, 2, 0), 300);
        Check.eq(roll.owed(0, 3, 2), 300);
        Check.eq(roll.owed(0, 3, 3), 2);
        Check.eq(roll.remind(0, 16), -9);
        Check.eq(roll.remind(0, 17), 2);
        Check.eq(roll.remind(0, 45), 3);
        // in between: less than 14 days from a later one too
        Check.eq(roll.remind(0, 32), -9);
        Check.eq(roll.remind(0, 31), 4);
        Check.eq(roll.owed(0, 45, 0), 620);
        // FEES come first
        roll.pay(0, 45, 20, 0);
        Check.eq(roll.owed(0, 45, 0), 600);
        Check.eq(roll.open(0, 0, 45), 280);
        roll.pay(0, 46, 20, -1);
        Check.eq(roll.owed(0, 46, 2), 580);
        Check.noSuch(() -> roll.remind(1, -1));
        Check.notLet(() -> roll.remind(0, -1));
        Check.notLet(() -> roll.remind(0, 1825));
    }

    private static void remindBounds() {
        Check.part("promise 20, what counts");
        Rentroll roll = withLease();
        roll.remind(0, 3);
        roll.pay(0, 3, 300, 0);
        // only the FEE is open: no reminder
        Check.eq(roll.owed(0, 20, 0), 5);
        Check.eq(roll.remind(0, 20), -9);
        // covered on that very DAY
        Rentroll other = withLease();
        other.pay(0, 10, 300, -1);
        Check.eq(other.remind(0, 10), -9);
        Check.eq(other.remind(0, 9), 1);
        // the SETTLEMENT (KIND 2) counts
        Rentroll third = withLease();
        third.step(0, 0, 1);
        third.pay(0, 5, 100, -1);
        third.bill(0, 2, 0, 364, 200, 100);
        Check.eq(third.settle(0, 0, 100), 1);
        Check.eq(third.remind(0, 100), -9);
        Check.eq(third.remind(0, 101), 1);
        // ahead of all debts there is none to be reminded of
        Check.eq(third.remind(0, 0), -9);
        remindersOfOthers();
    }

    private static void remindersOfOthers() {
        Rentroll roll = withLease();
        roll.flat(0, 50);
        roll.lease(1, 0, -1, 1, 200, 0);
        Check.eq(roll.remind(0, 10), 1);
        Check.eq(roll.remind(1, 10), 1);
        Check.eq(roll.owed(0, 10, 0), 305);
        Check.eq(roll.owed(1, 10, 0), 205);
        Check.eq(roll.owed(0, 10, 0), 305);
        Check.eq(roll.ofLease(1, 8), 1);
        // what is REFUNDED is no reminder
        Rentroll other = withLease();
        other.pay(0, 0, 100, -1);
        Check.eq(other.refund(0, 1, 50), 50);
        Check.eq(other.remind(0, 10), 1);
        Check.eq(other.owed(0, 10, 0), 255);
    }

    private static void terminate() {
        Check.part("promise 21");
        Rentroll roll = withLease();
        Check.eq(roll.terminate(0, 32), -9);
        Check.eq(roll.terminate(0, 33), 62);
        Check.eq(roll.ofLease(0, 2), 62);
        Check.eq(roll.ofLease(0, 4), 33);
        Check.eq(roll.ofLease(0, 1), -1);
        // MONTH 2 has days 59 to 62 then: 300 * 4 / 31
        Check.eq(roll.due(0, 2, 0), 39);
        Check.eq(roll.due(0, 3, 0), 0);
        Check.eq(roll.owed(0, 1824, 0), 639);
        Check.eq(roll.terminate(0, 40), -9);
        Check.eq(roll.terminate(0, 63), -9);
        Check.noSuch(() -> roll.terminate(1, -1));
        Check.notLet(() -> roll.terminate(0, -1));
        Check.notLet(() -> roll.terminate(0, 1825));
        terminateBounds();
    }

    private static void terminateBounds() {
        Rentroll roll = new Rentroll();
        roll.flat(0, 50);
        roll.lease(0, 10, 100, 2, 300, 0);
        Check.eq(roll.terminate(0, 101), -9);
        Check.eq(roll.terminate(0, 9), -9);
        // LAST is the least: TO is ahead of DAY 100 + 29
        Check.eq(roll.terminate(0, 100), 129);
        Check.eq(roll.ofLease(0, 2), 100);
        // told as it is, also beyond 1824
        Rentroll late = withLease();
        Check.eq(late.terminate(0, 1824), 1853);
        Check.eq(late.ofLease(0, 2), 1824);
        Check.eq(late.ofLease(0, 5), 0);
        // one RENT less one coin of two is not enough; an ADVANCE counts, a STEP counts
        Rentroll third = withLease();
        third.pay(0, 33, 1, -1);
        Check.eq(third.terminate(0, 33), -9);
        third.step(0, 40, 299);
        Check.eq(third.terminate(0, 39), -9);
        Check.eq(third.terminate(0, 40), 69);
        third.undo();
        third.undo();
        third.advance(0, 1);
        Check.eq(third.terminate(0, 33), 62);
    }

    private static void cured() {
        Check.part("promise 21, cured");
        Rentroll roll = withLease();
        roll.terminate(0, 33);
        roll.pay(0, 62, 599, -1);
        Check.eq(roll.ofLease(0, 5), 0);
        // the 29th DAY is the last one on which it can be CURED; but by then more is due, as if it went on
        roll.pay(0, 62, 1, -1);
        Check.eq(roll.ofLease(0, 5), 1);
        Check.eq(roll.ofLease(0, 2), 1824);
        Check.eq(roll.owed(0, 62, 0), 300);
        Check.eq(roll.due(0, 2, 0), 300);
        roll.undo();
        roll.pay(0, 63, 1, -1);
        Check.eq(roll.ofLease(0, 5), 0);
        Check.eq(roll.ofLease(0, 2), 62);
        // FEES are covered ahead, and take what would have CURED it
        Rentroll other = withLease();
        other.terminate(0, 33);
        other.pay(0, 40, 600, -1);
        Check.eq(other.ofLease(0, 5), 1);
        other.remind(0, 20);
        Check.eq(other.ofLease(0, 5), 0);
        other.pay(0, 50, 5, -1);
        Check.eq(other.ofLease(0, 5), 1);
        // a WORD of a later MONTH takes it away from the others
        Rentroll third = withLease();
        third.terminate(0, 33);
        third.pay(0, 61, 600, 2);
        Check.eq(third.ofLease(0, 5), 0);
        third.pay(0, 61, 300, -1);
        Check.eq(third.ofLease(0, 5), 1);
    }

    private static void secondTermination() {
        Check.part("promise 21, a second one");
        Rentroll roll = withLease();
        roll.terminate(0, 33);
        roll.pay(0, 40, 600, -1);
        Check.eq(roll.ofLease(0, 5), 1);
        // MONTHS 2 and 3 are open on DAY 92
        Check.eq(roll.terminate(0, 91), -9);
        Check.eq(roll.terminate(0, 92), 121);
        Check.eq(roll.ofLease(0, 4), 92);
        Check.eq(roll.ofLease(0, 5), 0);
        Check.eq(roll.ofLease(0, 2), 121);
        roll.undo();
        Check.eq(roll.ofLease(0, 4), 33);
        Check.eq(roll.ofLease(0, 2), 1824);
        // PRESSING is looked at as if no TERMINATION were
        Rentroll other = withLease();
        other.terminate(0, 33);
        Check.eq(other.owed(0, 200, 4), 1);
        other.pay(0, 63, 600, -1);
        Check.eq(other.owed(0, 63, 4), 0);
        Check.eq(other.owed(0, 92, 4), 1);
        // but what is OWED is looked at as it is: the last MONTH has 4 of 31 days
        Check.eq(other.owed(0, 92, 2), 39);
        Check.eq(other.owed(0, 92, 0), 39);
    }

    private static void out() {
        Check.part("promise 22");
        Rentroll roll = withLease();
        Check.noSuch(() -> roll.out(1));
        Check.noSuch(() -> roll.out(-1));
        Check.eq(roll.out(0), -9);
        roll.terminate(0, 33);
        Check.eq(roll.out(0), 62);
        Check.eq(roll.ofLease(0, 1), 62);
        Check.eq(roll.ofLease(0, 4), 33);
        Check.eq(roll.text(0), "flat 0 from 0 to 62 heads 2 rent 300 way 0");
        // TO counts for meeting from now on
        Check.eq(roll.lease(0, 63, -1, 1, 300, 0), 1);
        Check.eq(roll.out(0), 62);
        roll.pay(0, 40, 600, -1);
        Check.eq(roll.out(0), -9);
        Check.eq(roll.ofLease(0, 2), 62);
        Rentroll cured = withLease();
        cured.terminate(0, 33);
        cured.pay(0, 33, 600, -1);
        Check.eq(cured.out(0), -9);
        Rentroll ending = new Rentroll();
        ending.flat(0, 50);
        ending.lease(0, 0, 61, 2, 300, 0);
        Check.eq(ending.terminate(0, 33), 62);
        Check.eq(ending.out(0), -9);
        ending.option(0, 1);
        Check.eq(ending.out(0), 62);
        Rentroll late = withLease();
        late.terminate(0, 1796);
        Check.eq(late.out(0), -9);
        late.undo();
        late.terminate(0, 1795);
        Check.eq(late.out(0), 1824);
    }

    private static void due() {
        Check.part("promise 36");
        Rentroll roll = new Rentroll();
        roll.flat(0, 50);
        roll.lease(0, 10, 89, 2, 300, 0);
        roll.advance(0, 100);
        // 21 of 31 days: 203.2 and 67.7
        Check.eq(roll.due(0, 0, 0), 203);
        Check.eq(roll.due(0, 0, 1), 68);
        Check.eq(roll.due(0, 1, 0), 300);
        Check.eq(roll.due(0, 1, 1), 100);
        Check.eq(roll.due(0, 2, 0), 300);
        Check.eq(roll.due(0, 3, 0), 0);
        Check.eq(roll.due(0, 3, 1), 0);
        Check.eq(roll.due(0, 59, 0), 0);
        // a STEP within a MONTH, rounded once
        roll.step(0, 45, 301);
        Check.eq(roll.due(0, 1, 0), 301);
        roll.step(0, 46, 300);
        Check.eq(roll.due(0, 1, 0), 300);
        Check.noSuch(() -> roll.due(1, 60, 2));
        Check.notLet(() -> roll.due(0, -1, 0));
        Check.notLet(() -> roll.due(0, 60, 0));
        Check.notLet(() -> roll.due(0, 0, -1));
        Check.notLet(() -> roll.due(0, 0, 2));
    }

    private static void dueByWays() {
        Rentroll roll = new Rentroll();
        for (int way = 0; way < 3; way++) {
            roll.flat(0, 50);
            roll.lease(way, 31 + 14, 89, 2, 1000, way);
        }
        // 14 of 28 days
        Check.eq(roll.due(0, 1, 0), 500);
        // 14000 * 12 / 365 = 460.27, 14000 / 30 = 466.67
        Check.eq(roll.due(1, 1, 0), 460);
        Check.eq(roll.due(2, 1, 0), 467);
        // whole MONTHS are alike
        for (int way = 0; way < 3; way++) {
            Check.eq(roll.due(way, 2, 0), 1000);
        }
        // a broken MONTH of 30 days by WAY 2 is more than by WAY 0
        Rentroll long31 = new Rentroll();
        for (int way = 0; way < 3; way++) {
            long31.flat(0, 50);
            long31.lease(way, 1, -1, 2, 1000, way);
        }
        Check.eq(long31.due(0, 0, 0), 968);
        Check.eq(long31.due(1, 0, 0), 986);
        Check.eq(long31.due(2, 0, 0), 1000);
        // halves go up: 15 of 30 days of 1 and of 3
        Rentroll half = new Rentroll();
        half.flat(0, 50);
        half.lease(0, 105, -1, 1, 1, 0);
        half.advance(0, 3);
        Check.eq(half.due(0, 3, 0), 1);
        Check.eq(half.due(0, 3, 1), 2);
        half.step(0, 105, 100000);
        half.step(0, 150, 100000);
        Check.eq(half.due(0, 59, 0), 100000);
    }

    private static void owed() {
        Check.part("promise 37");
        Rentroll roll = new Rentroll();
        roll.flat(0, 50);
        roll.lease(0, 5, -1, 2, 310, 0);
        roll.advance(0, 31);
        // due on FROM, as that is later than FIRST + 2
        Check.eq(roll.owed(0, 4, 0), 0);
        Check.eq(roll.owed(0, 5, 0), 260 + 26);
        Check.eq(roll.owed(0, 5, 3), 2);
        Check.eq(roll.owed(0, 32, 0), 286);
        Check.eq(roll.owed(0, 33, 0), 286 + 341);
        Check.eq(roll.owed(0, 33, 2), 627);
        Check.eq(roll.owed(0, 33, 3), 4);
        Check.eq(roll.owed(0, 33, 4), 1);
        Check.eq(roll.owed(0, 32, 4), 0);
        Check.eq(roll.owed(0, 33, 1), 0);
        Check.eq(roll.owed(0, 0, 4), 0);
        roll.pay(0, 33, 627, -1);
        for (int what = 0; what <= 4; what++) {
            Check.eq(roll.owed(0, 33, what), 0);
        }
        Check.eq(roll.owed(0, 32, 0), 286);
        roll.pay(0, 1824, 100000, -1);
        Check.eq(roll.owed(0, 1824, 1), 100000 - 58 * 341);
        Check.noSuch(() -> roll.owed(1, -1, 5));
        Check.notLet(() -> roll.owed(0, -1, 0));
        Check.notLet(() -> roll.owed(0, 1825, 0));
        Check.notLet(() -> roll.owed(0, 0, -1));
        Check.notLet(() -> roll.owed(0, 0, 5));
    }

    private static void orderOfDebts() {
        Check.part("promise 37, order");
        Rentroll roll = withLease();
        roll.advance(0, 50);
        roll.bill(0, 2, 0, 33, 600 + 70, 100);
        roll.bill(0, 2, 400, 433, 600 + 80, 100);
        // SETTLEMENTS of two YEARS on DAY 33, where MONTH 1 is due too: 670 - 600 and 680 - 600
        Check.eq(roll.settle(0, 0, 33), 1);
        Check.eq(roll.settle(0, 1, 33), 1);
        Check.eq(roll.settled(0, 0), 70);
        Check.eq(roll.settled(0, 1), 80);
        Check.eq(roll.owed(0, 33, 0), 350 + 350 + 150);
        Check.eq(roll.owed(0, 33, 3), 6);
        int[][] paidAndLeft = {{300, 5}, {50, 4}, {300, 3}, {50, 2}, {70, 1}, {80, 0}};
        for (int[] pair : paidAndLeft) {
            roll.pay(0, 33, pair[0], -1);
            Check.eq(roll.owed(0, 33, 3), pair[1]);
        }
        Rentroll fees = withLease();
        fees.remind(0, 10);
        fees.pay(0, 10, 4, 0);
        Check.eq(fees.open(0, 0, 10), 296);
        fees.pay(0, 10, 4, -1);
        Check.eq(fees.owed(0, 10, 0), 297);
        Check.eq(fees.open(0, 0, 10), 296);
    }

    private static void open() {
        Check.part("promise 38");
        Rentroll roll = withLease();
        roll.pay(0, 5, 120, 0);
        Check.eq(roll.open(0, 0, 1), 0);
        Check.eq(roll.open(0, 0, 2), 300);
        Check.eq(roll.open(0, 0, 4), 300);
        Check.eq(roll.open(0, 0, 5), 180);
        Check.eq(roll.open(0, 0, 1824), 180);
        Check.eq(roll.open(0, 1, 32), 0);
        Check.eq(roll.open(0, 1, 33), 300);
        roll.freeMonth(0, 1);
        Check.eq(roll.open(0, 1, 33), 0);
        Check.eq(roll.open(0, 59, 1824), 300);
        Check.noSuch(() -> roll.open(1, 60, 0));
        Check.notLet(() -> roll.open(0, -1, 0));
        Check.notLet(() -> roll.open(0, 60, 0));
        Check.notLet(() -> roll.open(0, 0, -1));
        Check.notLet(() -> roll.open(0, 0, 1825));
    }

    private static void interest() {
        Check.part("promise 39");
        Rentroll roll = withLease();
        roll.rate(0, 1000);
        // due on DAY 2: it bears from DAY 3 on, 300 a day till DAY 33, then from DAY 34 on 600
        Check.eq(roll.interest(0, 0, 2, true), "0");
        Check.eq(roll.interest(0, 0, 3, true), "300000");
        Check.eq(roll.interest(0, 3, 33, true), "9300000");
        Check.eq(roll.interest(0, 34, 34, true), "600000");
        Check.eq(roll.interest(0, 0, 33, false), "2");
        Check.eq(roll.interest(0, 3, 14, false), "0");
        Check.eq(roll.interest(0, 3, 15, false), "1");
        // what is paid on a DAY is not open behind it
        roll.pay(0, 10, 300, -1);
        Check.eq(roll.interest(0, 0, 33, true), "2100000");
        // the RATE of that day
        roll.rate(5, 0);
        Check.eq(roll.interest(0, 0, 33, true), "600000");
        roll.rate(9, 5000);
        Check.eq(roll.interest(0, 0, 33, true), "2100000");
        Check.noSuch(() -> roll.interest(1, -1, 0, true));
        Check.notLet(() -> roll.interest(0, -1, 0, true));
        Check.notLet(() -> roll.interest(0, 1825, 1825, true));
        Check.notLet(() -> roll.interest(0, 5, 4, false));
        Check.notLet(() -> roll.interest(0, 5, 1825, false));
    }

    private static void interestOfKinds() {
        Rentroll roll = withLease();
        roll.rate(0, 1);
        roll.remind(0, 20);
        roll.pay(0, 20, 300, 0);
        // the FEE bears none
        Check.eq(roll.interest(0, 20, 33, true), "0");
        roll.advance(0, 10);
        Check.eq(roll.interest(0, 20, 20, true), "10");
        roll.bill(0, 2, 0, 0, 200, 100);
        roll.settle(0, 0, 25);
        // 80 of a SETTLEMENT from the DAY behind on
        Check.eq(roll.interest(0, 25, 25, true), "10");
        Check.eq(roll.interest(0, 26, 26, true), "90");
        // far more than an int holds
        Rentroll much = new Rentroll();
        much.flat(0, 5);
        much.lease(0, 0, -1, 1, 100000, 0);
        much.rate(0, 5000);
        // of each MONTH that was due ahead of it 100000
        long units = 0;
        int[] lengths = {31, 28, 31, 30, 31, 30, 31, 31, 30, 31, 30, 31};
        int due = 2;
        for (int month = 0; month < 60; month++) {
            units += 100000L * 5000 * (1824 - due);
            due += lengths[month % 12];
        }
        Check.eq(much.interest(0, 0, 1824, true), Long.toString(units));
        Check.eq(much.interest(0, 0, 1824, false), Long.toString(units / 3650000));
    }

    private static void pressing() {
        Check.part("promise 40");
        Rentroll roll = withLease();
        Check.eq(roll.pressing(0, 32), -1);
        Check.eq(roll.pressing(0, 33), 33);
        Check.eq(roll.pressing(0, 1824), 33);
        roll.pay(0, 33, 1, -1);
        Check.eq(roll.pressing(0, 60), -1);
        Check.eq(roll.pressing(0, 1824), 61);
        // only its days: TO is ahead of the DAY on which the last MONTH is due
        Rentroll brief = new Rentroll();
        brief.flat(0, 50);
        brief.lease(0, 0, 60, 1, 300, 0);
        brief.pay(0, 5, 300, -1);
        Check.eq(brief.pressing(0, 1824), -1);
        Check.eq(brief.pressing(0, 0), -1);
        // the very first day: a DEBT as great as two RENTS comes with the ADVANCE
        Rentroll first = new Rentroll();
        first.flat(0, 50);
        first.lease(0, 40, 99, 1, 300, 0);
        first.advance(0, 9999);
        Check.eq(first.pressing(0, 1824), 40);
        Check.eq(first.pressing(0, 40), 40);
        Check.eq(first.pressing(0, 39), -1);
        Check.noSuch(() -> roll.pressing(1, -1));
        Check.notLet(() -> roll.pressing(0, -1));
        Check.notLet(() -> roll.pressing(0, 1825));
        pressingOfTerminated();
    }

    private static void pressingOfTerminated() {
        Rentroll roll = withLease();
        roll.terminate(0, 33);
        roll.pay(0, 33, 100, -1);
        // MONTH 2 would make it PRESSING on DAY 61, which is one of its days
        Check.eq(roll.pressing(0, 1824), 61);
        Check.eq(roll.ofLease(0, 2), 62);
        // with that RENT it is not, and DAY 63 is behind LAST
        roll.step(0, 61, 1000);
        roll.step(0, 63, 1);
        Check.eq(roll.pressing(0, 1824), -1);
    }
}

/** Promises 1 to 15 and 32 to 35: days, flats, leases. */
public final class LeasesTest {
    private static final int BIG = Integer.MAX_VALUE;
    private static final int SMALL = Integer.MIN_VALUE;

    public static void main(String[] args) {
        newObject();
        flat();
        shift();
        lease();
        leasesMeet();
        advance();
        heads();
        step();
        freeMonth();
        option();
        notice();
        index();
        clause();
        adjust();
        adjustBounds();
        compare();
        raise();
        raiseBounds();
        area();
        tenant();
        ofLease();
        rentOf();
        Check.end("LeasesTest");
    }

    /** A flat of HOUSE 0 with an AREA of 50 and an open lease from DAY 0 with a RENT of 300. */
    private static Rentroll withLease() {
        Rentroll roll = new Rentroll();
        roll.flat(0, 50);
        roll.lease(0, 0, -1, 2, 300, 0);
        return roll;
    }

    private static void newObject() {
        Check.part("promise 1");
        Rentroll roll = new Rentroll();
        for (int what = 0; what <= 8; what++) {
            Check.eq(roll.count(what), 0);
        }
        Check.noSuch(() -> roll.area(0, 0));
        Check.noSuch(() -> roll.ofLease(0, 0));
        Check.noSuch(() -> roll.share(0, -1));
        Check.notNow(roll::undo);
        Check.yes(roll.isSound());
        Rentroll other = new Rentroll();
        other.flat(0, 1);
        Check.eq(roll.count(0), 0);
    }

    private static void flat() {
        Check.part("promise 2");
        Rentroll roll = new Rentroll();
        Check.eq(roll.flat(0, 1), 0);
        Check.eq(roll.flat(2, 500), 1);
        Check.eq(roll.flat(1, 7), 2);
        Check.notLet(() -> roll.flat(-1, 5));
        Check.notLet(() -> roll.flat(3, 5));
        Check.notLet(() -> roll.flat(0, 0));
        Check.notLet(() -> roll.flat(0, 501));
        Check.notLet(() -> roll.flat(BIG, BIG));
        Check.eq(roll.count(0), 3);
        for (int flat = 3; flat < 8; flat++) {
            Check.eq(roll.flat(0, 10), flat);
        }
        Check.notNow(() -> roll.flat(0, 10));
        Check.notLet(() -> roll.flat(0, 501));
        Check.eq(roll.count(0), 8);
        Check.eq(roll.count(7), 8);
    }

    private static void shift() {
        Check.part("promise 3");
        Rentroll roll = new Rentroll();
        roll.flat(0, 60);
        roll.flat(0, 40);
        roll.flat(1, 40);
        Check.eq(roll.shift(0, 1, 20, 100), 40);
        Check.eq(roll.area(0, 99), 60);
        Check.eq(roll.area(0, 100), 40);
        Check.eq(roll.area(1, 100), 60);
        Check.eq(roll.shift(0, 1, 5, 99), -9);
        Check.eq(roll.shift(0, 1, 5, 100), 35);
        Check.eq(roll.area(1, 1824), 65);
        Check.eq(roll.shift(0, 1, 35, 200), -9);
        Check.eq(roll.shift(0, 1, 34, 200), 1);
        Check.eq(roll.area(1, 200), 99);
        Check.eq(roll.count(7), 6);
        Check.noSuch(() -> roll.shift(-1, 0, 0, -1));
        Check.noSuch(() -> roll.shift(0, 3, 0, -1));
        Check.notLet(() -> roll.shift(0, 0, 1, 300));
        Check.notLet(() -> roll.shift(0, 2, 1, 300));
        Check.notLet(() -> roll.shift(1, 0, 0, 300));
        Check.notLet(() -> roll.shift(1, 0, 501, 300));
        Check.notLet(() -> roll.shift(1, 0, 1, -1));
        Check.notLet(() -> roll.shift(1, 0, 1, 1825));
        oneLateChangeIsEnough();
    }

    private static void oneLateChangeIsEnough() {
        Rentroll roll = new Rentroll();
        for (int flat = 0; flat < 3; flat++) {
            roll.flat(0, 500);
        }
        roll.shift(0, 1, 500 - 1, 50);
        Check.eq(roll.area(1, 50), 999);
        Check.eq(roll.shift(2, 1, 10, 49), -9);
        Check.eq(roll.shift(1, 2, 10, 49), -9);
        Check.eq(roll.shift(2, 1, 500, 50), -9);
        Check.eq(roll.shift(2, 1, 10, 50), 490);
        Check.eq(roll.area(1, 50), 1009);
    }

    private static void lease() {
        Check.part("promise 4");
        Rentroll roll = new Rentroll();
        roll.flat(0, 50);
        Check.eq(roll.lease(0, 0, 0, 1, 1, 0), 0);
        Check.eq(roll.lease(0, 1824, 1824, 6, 100000, 2), 1);
        Check.noSuch(() -> roll.lease(1, -1, 0, 0, 0, 9));
        Check.noSuch(() -> roll.lease(-1, 1, 2, 1, 1, 0));
        int[][] wrong = {{-1, 5, 1, 1, 0}, {1825, 1825, 1, 1, 0}, {5, 4, 1, 1, 0}, {5, -2, 1, 1, 0},
            {5, 1825, 1, 1, 0}, {5, 6, 0, 1, 0}, {5, 6, 7, 1, 0}, {5, 6, 1, 0, 0}, {5, 6, 1, 100001, 0},
            {5, 6, 1, 1, -1}, {5, 6, 1, 1, 3}, {SMALL, BIG, BIG, SMALL, BIG}};
        for (int[] a : wrong) {
            Check.notLet(() -> roll.lease(0, a[0], a[1], a[2], a[3], a[4]));
        }
        for (int lease = 2; lease < 12; lease++) {
            Check.eq(roll.lease(0, lease * 10, lease * 10 + 9, 1, 1, 0), lease);
        }
        Check.notNow(() -> roll.lease(0, 1000, 1001, 1, 1, 0));
        Check.notNow(() -> roll.lease(0, 0, 1824, 1, 1, 0));
        Check.notLet(() -> roll.lease(0, 1000, 999, 1, 1, 0));
        Check.eq(roll.count(1), 12);
    }

    private static void leasesMeet() {
        Rentroll roll = new Rentroll();
        roll.flat(0, 50);
        roll.flat(0, 50);
        roll.lease(0, 100, 199, 1, 10, 0);
        Check.eq(roll.lease(0, 0, 100, 1, 10, 0), -9);
        Check.eq(roll.lease(0, 199, 300, 1, 10, 0), -9);
        Check.eq(roll.lease(0, 150, 160, 1, 10, 0), -9);
        Check.eq(roll.lease(0, 0, -1, 1, 10, 0), -9);
        Check.eq(roll.lease(1, 0, -1, 1, 10, 0), 1);
        Check.eq(roll.lease(0, 0, 99, 1, 10, 0), 2);
        Check.eq(roll.lease(0, 200, -1, 1, 10, 0), 3);
        Check.eq(roll.lease(0, 1824, 1824, 1, 10, 0), -9);
        // a NOTICE counts: the open one ends with the MONTH 9 then
        Check.eq(roll.notice(3, 212), 303);
        Check.eq(roll.lease(0, 303, -1, 1, 10, 0), -9);
        Check.eq(roll.lease(0, 304, -1, 1, 10, 0), 4);
        Check.eq(roll.count(7), 8);
    }

    private static void advance() {
        Check.part("promise 5");
        Rentroll roll = withLease();
        Check.eq(roll.advance(0, 100000), 0);
        Check.eq(roll.advance(0, 31), 100000);
        Check.eq(roll.due(0, 0, 1), 31);
        Check.eq(roll.due(0, 59, 1), 31);
        Check.eq(roll.advance(0, 0), 31);
        Check.eq(roll.due(0, 59, 1), 0);
        Check.noSuch(() -> roll.advance(1, -1));
        Check.noSuch(() -> roll.advance(-1, 5));
        Check.notLet(() -> roll.advance(0, -1));
        Check.notLet(() -> roll.advance(0, 100001));
        Check.eq(roll.advance(0, 7), 0);
    }

    private static void heads() {
        Check.part("promise 6");
        Rentroll roll = new Rentroll();
        roll.flat(0, 50);
        roll.lease(0, 10, 99, 2, 300, 0);
        Check.eq(roll.heads(0, 50, 5), 2);
        Check.eq(roll.heads(0, 60, 3), 5);
        Check.eq(roll.heads(0, 50, 4), 5);
        Check.eq(roll.heads(0, 59, 6), 4);
        Check.eq(roll.heads(0, 10, 1), 2);
        Check.eq(roll.heads(0, 1824, 1), 3);
        Check.noSuch(() -> roll.heads(1, 9, 0));
        Check.notLet(() -> roll.heads(0, 9, 1));
        Check.notLet(() -> roll.heads(0, 1825, 1));
        Check.notLet(() -> roll.heads(0, 20, 0));
        Check.notLet(() -> roll.heads(0, 20, 7));
        Check.eq(roll.text(0), "flat 0 from 10 to 99 heads 1 rent 300 way 0");
    }

    private static void step() {
        Check.part("promise 7");
        Rentroll roll = new Rentroll();
        roll.flat(0, 50);
        roll.lease(0, 10, 99, 2, 300, 0);
        Check.eq(roll.step(0, 50, 320), 300);
        Check.eq(roll.step(0, 1824, 1), 320);
        Check.eq(roll.step(0, 50, 100000), 320);
        Check.eq(roll.ofLease(0, 6), 3);
        Check.eq(roll.rentOf(0, 49), 300);
        Check.eq(roll.rentOf(0, 50), 100000);
        Check.eq(roll.step(0, 10, 310), 300);
        Check.eq(roll.ofLease(0, 6), 3);
        Check.noSuch(() -> roll.step(1, 9, 0));
        Check.notLet(() -> roll.step(0, 9, 5));
        Check.notLet(() -> roll.step(0, 1825, 5));
        Check.notLet(() -> roll.step(0, 20, 0));
        Check.notLet(() -> roll.step(0, 20, 100001));
        Check.eq(roll.text(0), "flat 0 from 10 to 99 heads 2 rent 310 way 0");
    }

    private static void freeMonth() {
        Check.part("promise 8");
        Rentroll roll = withLease();
        roll.advance(0, 40);
        Check.eq(roll.freeMonth(0, 59), 1);
        Check.eq(roll.due(0, 59, 0), 0);
        Check.eq(roll.due(0, 59, 1), 40);
        Check.eq(roll.due(0, 58, 0), 300);
        Check.eq(roll.freeMonth(0, 0), 1);
        Check.eq(roll.ofLease(0, 10), 2);
        Check.eq(roll.freeMonth(0, 59), 0);
        Check.eq(roll.due(0, 59, 0), 300);
        Check.eq(roll.ofLease(0, 10), 1);
        Check.noSuch(() -> roll.freeMonth(1, 60));
        Check.notLet(() -> roll.freeMonth(0, -1));
        Check.notLet(() -> roll.freeMonth(0, 60));
    }

    private static void option() {
        Check.part("promise 9");
        Rentroll roll = new Rentroll();
        roll.flat(0, 50);
        roll.lease(0, 0, 99, 1, 300, 0);
        roll.lease(0, 200, 899, 1, 300, 0);
        Check.eq(roll.option(0, 101), -9);
        Check.eq(roll.option(0, 100), 199);
        Check.eq(roll.option(0, 1), -9);
        Check.eq(roll.option(1, 1000), 1824);
        Check.eq(roll.option(1, 1), 1824);
        Check.eq(roll.ofLease(1, 2), 1824);
        Check.noSuch(() -> roll.option(2, 0));
        Check.notLet(() -> roll.option(0, 0));
        Check.notLet(() -> roll.option(0, 1001));
        Rentroll other = withLease();
        Check.eq(other.option(0, 10), -9);
        other.flat(0, 5);
        other.lease(1, 0, 500, 1, 300, 0);
        other.notice(1, 0);
        Check.eq(other.option(1, 10), -9);
        Check.eq(other.ofLease(1, 1), 500);
    }

    private static void notice() {
        Check.part("promise 10");
        Rentroll roll = withLease();
        // DAYS 31 to 33 are the first three of MONTH 1: it ends with MONTH 3, otherwise with MONTH 4
        Check.eq(roll.notice(0, 33), 119);
        Check.eq(roll.ofLease(0, 3), 119);
        Check.eq(roll.ofLease(0, 2), 119);
        Check.eq(roll.notice(0, 33), -9);
        roll.undo();
        Check.eq(roll.notice(0, 34), 150);
        roll.undo();
        Check.eq(roll.notice(0, 31), 119);
        roll.undo();
        Check.eq(roll.notice(0, 30), 119);
        roll.undo();
        // MONTH 56 begins with DAY 1703: the third one behind it is the last, which is not ahead of 1824
        Check.eq(roll.notice(0, 1733), -9);
        Check.eq(roll.notice(0, 1706), -9);
        Check.eq(roll.notice(0, 1705), 1793);
        roll.undo();
        Check.eq(roll.notice(0, 1824), -9);
        Check.noSuch(() -> roll.notice(1, -1));
        Check.notLet(() -> roll.notice(0, -1));
        Check.notLet(() -> roll.notice(0, 1825));
        noticeOfOneThatEnds();
    }

    private static void noticeOfOneThatEnds() {
        Rentroll roll = new Rentroll();
        roll.flat(0, 50);
        roll.lease(0, 40, 150, 1, 300, 0);
        Check.eq(roll.notice(0, 39), -9);
        Check.eq(roll.notice(0, 151), -9);
        Check.eq(roll.notice(0, 40), -9);
        roll.option(0, 1);
        Check.eq(roll.notice(0, 40), 150);
        Check.eq(roll.ofLease(0, 1), 151);
        Check.eq(roll.ofLease(0, 2), 150);
        Check.eq(roll.tenant(0, 151), -1);
    }

    private static void index() {
        Check.part("promise 11");
        Rentroll roll = new Rentroll();
        Check.eq(roll.index(0, 1), -1);
        Check.eq(roll.index(0, 10000), 1);
        Check.eq(roll.index(59, 5), -1);
        Check.eq(roll.index(0, 10000), 10000);
        Check.eq(roll.count(5), 2);
        Check.notLet(() -> roll.index(-1, 5));
        Check.notLet(() -> roll.index(60, 5));
        Check.notLet(() -> roll.index(5, 0));
        Check.notLet(() -> roll.index(5, 10001));
        Check.eq(roll.count(5), 2);
    }

    private static void clause() {
        Check.part("promise 12");
        Rentroll roll = withLease();
        Check.eq(roll.clause(0, 0, 50), 1);
        roll.step(0, 40, 310);
        roll.step(0, 40, 320);
        Check.eq(roll.clause(0, 50, 0), 2);
        Check.noSuch(() -> roll.clause(1, -1, 0));
        Check.notLet(() -> roll.clause(0, -1, 0));
        Check.notLet(() -> roll.clause(0, 51, 0));
        Check.notLet(() -> roll.clause(0, 0, -1));
        Check.notLet(() -> roll.clause(0, 0, 51));
        // the BASE stays
        roll.clause(0, 0, 50);
        roll.index(0, 100);
        roll.index(5, 105);
        roll.adjust(0, 5);
        roll.clause(0, 0, 10);
        Check.eq(roll.ofLease(0, 9), 5);
    }

    private static void adjust() {
        Check.part("promise 13");
        Rentroll roll = withLease();
        Check.noSuch(() -> roll.adjust(1, 60));
        Check.notLet(() -> roll.adjust(0, 60));
        Check.notLet(() -> roll.adjust(0, -1));
        Check.notNow(() -> roll.adjust(0, 5));
        roll.clause(0, 5, 20);
        Check.eq(roll.adjust(0, 5), -9);
        roll.index(5, 105);
        Check.eq(roll.adjust(0, 5), -9);
        roll.index(0, 101);
        Check.eq(roll.adjust(0, 5), -9);
        roll.index(0, 100);
        // exactly the bar: 300 * 105 / 100
        Check.eq(roll.adjust(0, 5), 315);
        Check.eq(roll.rentOf(0, 150), 300);
        Check.eq(roll.rentOf(0, 151), 315);
        Check.eq(roll.ofLease(0, 9), 5);
        Check.eq(roll.ofLease(0, 6), 2);
        Check.eq(roll.adjust(0, 5), -9);
        Check.eq(roll.adjust(0, 4), -9);
        // 315 * 111 / 105 = 333
        roll.index(10, 111);
        Check.eq(roll.adjust(0, 10), 333);
        // the top: 333 * 120 / 100 = 399.6, cut
        roll.index(20, 999);
        Check.eq(roll.adjust(0, 20), 399);
    }

    private static void adjustBounds() {
        Rentroll roll = new Rentroll();
        roll.flat(0, 50);
        roll.lease(0, 31, 150, 1, 99999, 0);
        roll.clause(0, 0, 50);
        for (int month = 0; month < 8; month++) {
            roll.index(month, 100 + month * month);
        }
        Check.eq(roll.ofLease(0, 9), 1);
        Check.eq(roll.adjust(0, 1), -9);
        Check.eq(roll.adjust(0, 5), -9);
        Check.eq(roll.option(0, 1), 151);
        // 99999 * 125 / 101 is more than a RENT can be
        Check.eq(roll.adjust(0, 5), 100000);
        roll.undo();
        roll.index(2, 101);
        // bar 0, but not above the value of the BASE
        Check.eq(roll.adjust(0, 2), -9);
        // a top of 0 is a STEP of the same RENT
        roll.clause(0, 0, 0);
        Check.eq(roll.adjust(0, 3), 99999);
        Check.eq(roll.ofLease(0, 6), 2);
        Check.eq(roll.ofLease(0, 9), 3);
        adjustRounds();
    }

    private static void adjustRounds() {
        Rentroll roll = new Rentroll();
        roll.flat(0, 50);
        roll.lease(0, 0, -1, 1, 50, 0);
        roll.clause(0, 0, 50);
        roll.index(0, 100);
        roll.index(1, 101);
        // 50.5: halves go up
        Check.eq(roll.adjust(0, 1), 51);
        Check.eq(roll.rentOf(0, 31), 51);
        roll.undo();
        // the STEP of that very DAY is replaced, a later one stays
        roll.step(0, 31, 70);
        roll.step(0, 40, 80);
        Check.eq(roll.adjust(0, 1), 51);
        Check.eq(roll.rentOf(0, 31), 51);
        Check.eq(roll.rentOf(0, 40), 80);
        Check.eq(roll.ofLease(0, 6), 3);
    }

    private static void compare() {
        Check.part("promise 14");
        Rentroll roll = new Rentroll();
        for (int row = 1; row <= 9; row++) {
            Check.eq(roll.compare(1, row == 1 ? 1 : 1000), row);
        }
        Check.notNow(() -> roll.compare(1, 5));
        Check.notLet(() -> roll.compare(1, 0));
        Check.notLet(() -> roll.compare(0, 1001));
        Check.notLet(() -> roll.compare(-1, 5));
        Check.notLet(() -> roll.compare(3, 5));
        Check.eq(roll.compare(0, 5), 1);
        Check.eq(roll.compare(2, 5), 1);
    }

    private static void raise() {
        Check.part("promise 15");
        Rentroll roll = withLease();
        roll.compare(0, 9);
        roll.compare(0, 6);
        roll.compare(1, 1);
        Check.eq(roll.raise(0, 5), -9);
        roll.compare(0, 7);
        // the middle one of 6, 7, 9 times 50
        Check.eq(roll.raise(0, 5), 350);
        Check.eq(roll.rentOf(0, 150), 300);
        Check.eq(roll.rentOf(0, 151), 350);
        Check.eq(roll.raise(0, 6), -9);
        roll.compare(0, 8);
        // of 6, 7, 8, 9 the smaller middle one, 7: no more
        Check.eq(roll.raise(0, 6), -9);
        roll.compare(0, 9);
        // 8 * 50 = 400, but at most 300 * 120 / 100
        Check.eq(roll.raise(0, 6), 360);
        Check.eq(roll.ofLease(0, 6), 3);
        Check.noSuch(() -> roll.raise(1, 60));
        Check.notLet(() -> roll.raise(0, 60));
        Check.notLet(() -> roll.raise(0, -1));
    }

    private static void raiseBounds() {
        Rentroll roll = new Rentroll();
        roll.flat(0, 500);
        roll.lease(0, 31, 1126, 1, 99, 0);
        for (int row = 0; row < 3; row++) {
            roll.compare(0, 1000);
        }
        Check.eq(roll.raise(0, 0), -9);
        Check.eq(roll.raise(0, 1), -9);
        // 99 * 120 / 100 = 118.8, cut
        Check.eq(roll.raise(0, 2), 118);
        // the first DAY of MONTH 37 is 1126, its LAST; 1095 days ahead of it is FROM
        Check.eq(roll.raise(0, 37), -9);
        roll.step(0, 31, 100);
        Check.eq(roll.raise(0, 37), 120);
        Check.eq(roll.raise(0, 38), -9);
        roll.step(0, 31, 100000);
        roll.step(0, 59, 99999);
        Check.eq(roll.raise(0, 36), 100000);
        roll.undo();
        // 1095 days ahead of MONTH 38's FIRST is a DAY of MONTH 2 with another RENT
        roll.option(0, 600);
        Check.eq(roll.raise(0, 38), 100000);
        raiseLooksBack();
    }

    private static void raiseLooksBack() {
        Rentroll roll = new Rentroll();
        roll.flat(0, 50);
        roll.flat(0, 50);
        roll.lease(0, 0, -1, 1, 100, 0);
        for (int row = 0; row < 3; row++) {
            roll.compare(0, 20);
        }
        roll.step(0, 1, 200);
        // MONTH 36 begins with DAY 1095: 1095 days ahead is DAY 0 with the RENT 100
        Check.eq(roll.raise(0, 36), -9);
        Check.eq(roll.raise(0, 37), 240);
        // the AREA is that on FIRST
        roll.undo();
        roll.step(0, 1, 900);
        roll.step(0, 1125, 10);
        roll.shift(0, 1, 40, 1126);
        Check.eq(roll.raise(0, 37), 200);
    }

    private static void area() {
        Check.part("promise 32");
        Rentroll roll = new Rentroll();
        roll.flat(0, 60);
        roll.flat(0, 40);
        roll.shift(0, 1, 1, 0);
        Check.eq(roll.area(0, 0), 59);
        Check.eq(roll.area(1, 1824), 41);
        Check.noSuch(() -> roll.area(2, -1));
        Check.noSuch(() -> roll.area(-1, 0));
        Check.notLet(() -> roll.area(0, -1));
        Check.notLet(() -> roll.area(0, 1825));
    }

    private static void tenant() {
        Check.part("promise 33");
        Rentroll roll = new Rentroll();
        roll.flat(0, 60);
        roll.flat(0, 40);
        roll.lease(1, 10, 20, 1, 300, 0);
        roll.lease(1, 21, -1, 1, 300, 0);
        Check.eq(roll.tenant(1, 9), -1);
        Check.eq(roll.tenant(1, 10), 0);
        Check.eq(roll.tenant(1, 20), 0);
        Check.eq(roll.tenant(1, 21), 1);
        Check.eq(roll.tenant(1, 1824), 1);
        Check.eq(roll.tenant(0, 10), -1);
        Check.noSuch(() -> roll.tenant(2, -1));
        Check.notLet(() -> roll.tenant(0, -1));
        Check.notLet(() -> roll.tenant(0, 1825));
        // a TERMINATION that is not CURED ends it too
        roll.terminate(1, 100);
        Check.eq(roll.tenant(1, 129), 1);
        Check.eq(roll.tenant(1, 130), -1);
    }

    private static void ofLease() {
        Check.part("promise 34");
        Rentroll roll = withLease();
        int[] fresh = {0, -1, 1824, -1, -1, 0, 1, 0, 0, 0, 0, 0};
        for (int what = 0; what < 12; what++) {
            Check.eq(roll.ofLease(0, what), fresh[what]);
        }
        roll.step(0, 400, 310);
        roll.defect(0, 0, 5, 10);
        roll.freeMonth(0, 50);
        roll.terminate(0, 70);
        roll.remind(0, 10);
        roll.bill(0, 0, 0, 364, 100, 100);
        roll.settle(0, 0, 400);
        int[] then = {0, -1, 99, -1, 70, 0, 2, 1, 1, 0, 1, 1};
        for (int what = 0; what < 12; what++) {
            Check.eq(roll.ofLease(0, what), then[what]);
        }
        roll.pay(0, 99, 100000, -1);
        Check.eq(roll.ofLease(0, 5), 1);
        Check.eq(roll.ofLease(0, 2), 1824);
        Check.eq(roll.ofLease(0, 4), 70);
        roll.notice(0, 100);
        Check.eq(roll.ofLease(0, 3), 211);
        Check.eq(roll.ofLease(0, 2), 211);
        Check.eq(roll.ofLease(0, 1), -1);
        Check.noSuch(() -> roll.ofLease(1, 12));
        Check.notLet(() -> roll.ofLease(0, -1));
        Check.notLet(() -> roll.ofLease(0, 12));
    }

    private static void rentOf() {
        Check.part("promise 35");
        Rentroll roll = new Rentroll();
        roll.flat(0, 50);
        roll.lease(0, 10, 20, 2, 300, 0);
        roll.step(0, 15, 250);
        Check.eq(roll.rentOf(0, 9), 0);
        Check.eq(roll.rentOf(0, 10), 300);
        Check.eq(roll.rentOf(0, 14), 300);
        Check.eq(roll.rentOf(0, 15), 250);
        Check.eq(roll.rentOf(0, 1824), 250);
        Check.noSuch(() -> roll.rentOf(1, -1));
        Check.notLet(() -> roll.rentOf(0, -1));
        Check.notLet(() -> roll.rentOf(0, 1825));
    }
}

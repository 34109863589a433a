/**
 * "Refused calls": each case for which a promise says "-9", that nothing is changed then, and the next one to it
 * that is done; what can be UNDONE; who knocks.
 */
public final class RefusedTest {
    public static void main(String[] args) {
        shiftAheadOfALaterChange();
        shiftThatKeepsNothing();
        leaseThatMeets();
        leaseThatMeetsAnOpenOne();
        optionOfAnOpenOne();
        optionBehindNotice();
        optionThatMeets();
        noticeOnADayThatIsNone();
        secondNotice();
        noticeNotAheadOfTo();
        adjustWithoutIndex();
        adjustOutsideOfItsDays();
        adjustNotBehindBase();
        adjustNotGrown();
        raiseWithoutRows();
        raiseOutsideOfItsDays();
        raiseToNoMore();
        refundOfMoreThanThereIs();
        remindOfNothing();
        remindTooSoon();
        terminateNotPressing();
        terminateOnADayThatIsNone();
        terminateTwice();
        outWithoutTermination();
        outOfACuredOne();
        outWithLastAhead();
        readAgainstOthers();
        depositAheadOfTheLastDay();
        useAheadOfTheLastDay();
        useOfMoreThanThereIs();
        giveBackAheadOfTheLastDay();
        giveBackNotBehindLast();
        onlyWhatWasDoneCanBeUndone();
        undoneOneByOne();
        undoTakesBackAllButRefused();
        whoKnocksIsRefused();
        Check.end("RefusedTest");
    }

    private static Rentroll withLease() {
        Rentroll roll = new Rentroll();
        roll.flat(0, 50);
        roll.lease(0, 0, -1, 2, 300, 0);
        return roll;
    }

    /** A LEASE from 40 to 700. */
    private static Rentroll withSpan() {
        Rentroll roll = new Rentroll();
        roll.flat(0, 50);
        roll.lease(0, 40, 700, 2, 300, 0);
        return roll;
    }

    private static void shiftAheadOfALaterChange() {
        Check.part("promise 3: -9 if one of both has a later change");
        Rentroll roll = new Rentroll();
        for (int flat = 0; flat < 4; flat++) {
            roll.flat(0, 50);
        }
        roll.shift(0, 1, 5, 100);
        // flat 0, which gave, and flat 1, which got: as giver and as taker
        Check.refused(roll, () -> roll.shift(0, 2, 5, 99));
        Check.refused(roll, () -> roll.shift(2, 0, 5, 99));
        Check.refused(roll, () -> roll.shift(1, 2, 5, 99));
        Check.eq(roll.shift(2, 1, 5, 99), -9);
        Check.eq(roll.shift(2, 1, 5, 0), -9);
        Check.eq(roll.shift(2, 3, 5, 99), 45);
        Check.eq(roll.shift(0, 2, 5, 100), 40);
        Check.eq(roll.shift(3, 1, 5, 100), 50);
    }

    private static void shiftThatKeepsNothing() {
        Check.part("promise 3: -9 if it does not keep 1 or more");
        Rentroll roll = new Rentroll();
        roll.flat(0, 50);
        roll.flat(0, 50);
        Check.refused(roll, () -> roll.shift(0, 1, 50, 100));
        Check.refused(roll, () -> roll.shift(0, 1, 51, 100));
        Check.eq(roll.shift(0, 1, 500, 100), -9);
        Check.eq(roll.shift(0, 1, 49, 100), 1);
        Check.eq(roll.shift(0, 1, 1, 100), -9);
        Check.eq(roll.shift(1, 0, 98, 100), 1);
    }

    private static void leaseThatMeets() {
        Check.part("promise 4: -9 if it MEETS another one");
        Rentroll roll = withSpan();
        int[][] meeting = {{0, 40}, {0, -1}, {40, 40}, {700, 700}, {700, -1}, {41, 699}, {40, 700}, {39, 701}};
        for (int[] span : meeting) {
            Check.eq(roll.lease(0, span[0], span[1], 1, 5, 0), -9);
        }
        Check.refused(roll, () -> roll.lease(0, 0, 40, 1, 5, 0));
        Check.eq(roll.count(1), 1);
        Check.eq(roll.lease(0, 0, 39, 1, 5, 0), 1);
        Check.eq(roll.lease(0, 701, -1, 1, 5, 0), 2);
    }

    private static void leaseThatMeetsAnOpenOne() {
        Check.part("promise 4: open is till 1824, a TERMINATION does not count");
        Rentroll roll = withLease();
        Check.refused(roll, () -> roll.lease(0, 1824, 1824, 1, 5, 0));
        Check.eq(roll.terminate(0, 33), 62);
        Check.eq(roll.ofLease(0, 2), 62);
        Check.refused(roll, () -> roll.lease(0, 63, -1, 1, 5, 0));
        Check.refused(roll, () -> roll.lease(0, 1824, -1, 1, 5, 0));
        // put OUT, its TO counts
        Check.eq(roll.out(0), 62);
        Check.eq(roll.lease(0, 62, -1, 1, 5, 0), -9);
        Check.eq(roll.lease(0, 63, -1, 1, 5, 0), 1);
        Rentroll last = new Rentroll();
        last.flat(0, 5);
        last.lease(0, 1824, -1, 1, 5, 0);
        Check.refused(last, () -> last.lease(0, 0, -1, 1, 5, 0));
        Check.eq(last.lease(0, 0, 1824, 1, 5, 0), -9);
        Check.eq(last.lease(0, 0, 1823, 1, 5, 0), 1);
    }

    private static void optionOfAnOpenOne() {
        Check.part("promise 9: -9 if it is open");
        Rentroll roll = withLease();
        Check.refused(roll, () -> roll.option(0, 1));
        // a TERMINATION does not make it one that ends; put OUT it is
        roll.terminate(0, 33);
        Check.refused(roll, () -> roll.option(0, 1));
        roll.out(0);
        Check.eq(roll.option(0, 1), 63);
    }

    private static void optionBehindNotice() {
        Check.part("promise 9: -9 if a NOTICE is told");
        Rentroll roll = withSpan();
        roll.notice(0, 40);
        Check.refused(roll, () -> roll.option(0, 1));
        roll.undo();
        Check.eq(roll.option(0, 1), 701);
    }

    private static void optionThatMeets() {
        Check.part("promise 9: -9 if it would MEET another one");
        Rentroll roll = withSpan();
        roll.lease(0, 800, 900, 1, 5, 0);
        roll.lease(0, 1824, 1824, 1, 5, 0);
        Check.refused(roll, () -> roll.option(0, 100));
        Check.eq(roll.option(0, 99), 799);
        Check.refused(roll, () -> roll.option(0, 1));
        // capped at 1824 it still would
        Check.refused(roll, () -> roll.option(1, 1000));
        Check.refused(roll, () -> roll.option(1, 924));
        Check.eq(roll.option(1, 923), 1823);
        // a LEASE ahead of it, or in another FLAT, is none that it could MEET
        roll.flat(0, 5);
        roll.lease(1, 0, -1, 1, 5, 0);
        Check.eq(roll.option(2, 5), 1824);
    }

    private static void noticeOnADayThatIsNone() {
        Check.part("promise 10: -9 if the DAY is not one of FROM to LAST");
        Rentroll roll = withSpan();
        Check.refused(roll, () -> roll.notice(0, 39));
        Check.refused(roll, () -> roll.notice(0, 0));
        Check.refused(roll, () -> roll.notice(0, 701));
        Check.eq(roll.notice(0, 40), 150);
        // LAST is what a TERMINATION tells: 62 is one of its days, 63 is not
        Rentroll ended = withLease();
        ended.terminate(0, 33);
        Check.refused(ended, () -> ended.notice(0, 63));
        Check.eq(ended.notice(0, 62), 180);
        Check.eq(ended.ofLease(0, 2), 62);
    }

    private static void secondNotice() {
        Check.part("promise 10: -9 if there is a NOTICE");
        Rentroll roll = withLease();
        Check.eq(roll.notice(0, 500), 607);
        Check.refused(roll, () -> roll.notice(0, 500));
        Check.refused(roll, () -> roll.notice(0, 0));
        Check.refused(roll, () -> roll.notice(0, 607));
        roll.undo();
        Check.eq(roll.notice(0, 0), 89);
    }

    private static void noticeNotAheadOfTo() {
        Check.part("promise 10: -9 if it would not be ahead of TO");
        // told on DAY 40 it ends with DAY 150
        int[][] toAndAnswer = {{149, -9}, {150, -9}, {151, 150}, {1824, 150}};
        for (int[] pair : toAndAnswer) {
            Rentroll roll = new Rentroll();
            roll.flat(0, 5);
            roll.lease(0, 40, pair[0], 1, 5, 0);
            Check.eq(roll.notice(0, 40), pair[1]);
            Check.eq(roll.ofLease(0, 3), pair[1] == -9 ? -1 : 150);
        }
        // of 1824, if open: MONTH 58 ends with DAY 1793, MONTH 59 with 1824 itself, and there is none behind it
        Rentroll open = withLease();
        Check.refused(open, () -> open.notice(0, 1706));
        Check.refused(open, () -> open.notice(0, 1735));
        Check.eq(open.notice(0, 1767), -9);
        Check.eq(open.notice(0, 1794), -9);
        Check.eq(open.notice(0, 1824), -9);
        Check.eq(open.notice(0, 1705), 1793);
    }

    private static void adjustWithoutIndex() {
        Check.part("promise 13: -9 if the INDEX of that MONTH or of the BASE is not told");
        Rentroll roll = withLease();
        roll.clause(0, 5, 50);
        roll.index(4, 100);
        roll.index(6, 200);
        Check.refused(roll, () -> roll.adjust(0, 5));
        roll.index(5, 110);
        Check.refused(roll, () -> roll.adjust(0, 5));
        roll.index(0, 100);
        Check.eq(roll.adjust(0, 5), 330);
        roll.undo();
        roll.undo();
        Check.refused(roll, () -> roll.adjust(0, 5));
    }

    private static void adjustOutsideOfItsDays() {
        Check.part("promise 13: -9 if FIRST is not one of FROM + 1 to LAST");
        Rentroll roll = new Rentroll();
        roll.flat(0, 5);
        // MONTH 2 begins with DAY 59, MONTH 3 with DAY 90
        roll.lease(0, 58, 89, 1, 100, 0);
        roll.clause(0, 0, 50);
        for (int month = 0; month < 6; month++) {
            roll.index(month, 100 + 10 * month);
        }
        Check.refused(roll, () -> roll.adjust(0, 0));
        Check.refused(roll, () -> roll.adjust(0, 1));
        Check.refused(roll, () -> roll.adjust(0, 3));
        Check.refused(roll, () -> roll.adjust(0, 4));
        // 100 * 120 / 110
        Check.eq(roll.adjust(0, 2), 109);
        roll.undo();
        roll.option(0, 1);
        Check.eq(roll.adjust(0, 3), 118);
        // a TERMINATION counts for LAST
        Rentroll ended = withLease();
        ended.clause(0, 0, 50);
        ended.index(0, 100);
        ended.index(2, 120);
        ended.index(3, 120);
        ended.terminate(0, 61);
        Check.eq(ended.ofLease(0, 2), 90);
        Check.eq(ended.adjust(0, 3), 360);
        ended.undo();
        ended.undo();
        ended.terminate(0, 60);
        Check.refused(ended, () -> ended.adjust(0, 3));
        Check.eq(ended.adjust(0, 2), 360);
    }

    private static void adjustNotBehindBase() {
        Check.part("promise 13: -9 if the MONTH is not behind the BASE");
        Rentroll roll = withLease();
        roll.clause(0, 0, 50);
        roll.index(0, 100);
        roll.index(4, 130);
        roll.index(5, 110);
        roll.index(6, 111);
        Check.eq(roll.adjust(0, 5), 330);
        Check.refused(roll, () -> roll.adjust(0, 5));
        Check.refused(roll, () -> roll.adjust(0, 4));
        Check.refused(roll, () -> roll.adjust(0, 0));
        Check.eq(roll.adjust(0, 6), 333);
    }

    private static void adjustNotGrown() {
        Check.part("promise 13: -9 if it has not grown so");
        Rentroll roll = withLease();
        roll.clause(0, 5, 50);
        roll.index(0, 100);
        roll.index(5, 104);
        Check.refused(roll, () -> roll.adjust(0, 5));
        roll.index(5, 100);
        Check.refused(roll, () -> roll.adjust(0, 5));
        roll.index(5, 1);
        Check.refused(roll, () -> roll.adjust(0, 5));
        roll.index(5, 105);
        Check.eq(roll.adjust(0, 5), 315);
        // with a bar of 0 it must be above the value of the BASE
        roll.undo();
        roll.clause(0, 0, 50);
        roll.index(5, 100);
        Check.refused(roll, () -> roll.adjust(0, 5));
        roll.index(5, 99);
        Check.refused(roll, () -> roll.adjust(0, 5));
        roll.index(5, 101);
        Check.eq(roll.adjust(0, 5), 303);
    }

    private static void raiseWithoutRows() {
        Check.part("promise 15: -9 if the HOUSE has fewer than 3 ROWS");
        Rentroll roll = withLease();
        roll.compare(0, 7);
        roll.compare(0, 7);
        roll.compare(1, 7);
        roll.compare(2, 7);
        Check.refused(roll, () -> roll.raise(0, 5));
        roll.compare(0, 7);
        Check.eq(roll.raise(0, 5), 350);
    }

    private static void raiseOutsideOfItsDays() {
        Check.part("promise 15: -9 if FIRST is not one of FROM + 1 to LAST");
        Rentroll roll = new Rentroll();
        roll.flat(0, 50);
        roll.lease(0, 59, 119, 1, 300, 0);
        for (int row = 0; row < 3; row++) {
            roll.compare(0, 7);
        }
        // MONTH 2 begins with FROM, MONTH 4 behind LAST
        Check.refused(roll, () -> roll.raise(0, 1));
        Check.refused(roll, () -> roll.raise(0, 2));
        Check.refused(roll, () -> roll.raise(0, 4));
        Check.eq(roll.raise(0, 3), 350);
        roll.undo();
        roll.option(0, 1);
        Check.eq(roll.raise(0, 4), 350);
        Rentroll early = new Rentroll();
        early.flat(0, 50);
        early.lease(0, 58, 59, 1, 300, 0);
        for (int row = 0; row < 3; row++) {
            early.compare(0, 7);
        }
        // FROM + 1, which is LAST too
        Check.eq(early.raise(0, 2), 350);
    }

    private static void raiseToNoMore() {
        Check.part("promise 15: -9 if it is no more");
        Rentroll roll = withLease();
        for (int row = 0; row < 3; row++) {
            roll.compare(0, 6);
        }
        Check.refused(roll, () -> roll.raise(0, 5));
        roll.step(0, 0, 301);
        Check.refused(roll, () -> roll.raise(0, 5));
        roll.step(0, 0, 299);
        Check.eq(roll.raise(0, 5), 300);
        Check.refused(roll, () -> roll.raise(0, 5 + 1));
    }

    private static void refundOfMoreThanThereIs() {
        Check.part("promise 18: -9 if there is less CREDIT than that");
        Rentroll roll = withLease();
        Check.refused(roll, () -> roll.refund(0, 0, 1));
        roll.pay(0, 10, 350, -1);
        Check.refused(roll, () -> roll.refund(0, 9, 1));
        Check.refused(roll, () -> roll.refund(0, 10, 51));
        Check.refused(roll, () -> roll.refund(0, 32, 51));
        // DAY 33's RENT has covered itself out of it
        Check.refused(roll, () -> roll.refund(0, 33, 1));
        Check.eq(roll.refund(0, 32, 50), 0);
        Check.refused(roll, () -> roll.refund(0, 32, 1));
    }

    private static void remindOfNothing() {
        Check.part("promise 20: -9 if nothing that was due ahead of it is OPEN behind it");
        Rentroll roll = withLease();
        Check.refused(roll, () -> roll.remind(0, 0));
        Check.refused(roll, () -> roll.remind(0, 2));
        roll.pay(0, 10, 299, -1);
        Check.eq(roll.remind(0, 10), 1);
        roll.undo();
        roll.pay(0, 10, 1, -1);
        Check.refused(roll, () -> roll.remind(0, 10));
        Check.refused(roll, () -> roll.remind(0, 33));
        Check.eq(roll.remind(0, 34), 1);
        // the 5 coins of the FEE are no cause of a reminder
        Rentroll fee = withLease();
        fee.remind(0, 5);
        fee.pay(0, 5, 300, 0);
        Check.eq(fee.owed(0, 30, 0), 5);
        Check.refused(fee, () -> fee.remind(0, 30));
    }

    private static void remindTooSoon() {
        Check.part("promise 20: -9 if a reminder is less than 14 days away");
        Rentroll roll = withLease();
        Check.eq(roll.remind(0, 100), 1);
        Check.refused(roll, () -> roll.remind(0, 100));
        Check.refused(roll, () -> roll.remind(0, 113));
        Check.refused(roll, () -> roll.remind(0, 87));
        Check.eq(roll.remind(0, 114), 2);
        Check.eq(roll.remind(0, 86), 3);
        Check.eq(roll.ofLease(0, 8), 3);
    }

    private static void terminateNotPressing() {
        Check.part("promise 21: -9 if it is not PRESSING");
        Rentroll roll = withLease();
        Check.refused(roll, () -> roll.terminate(0, 0));
        Check.refused(roll, () -> roll.terminate(0, 32));
        roll.pay(0, 33, 1, -1);
        Check.refused(roll, () -> roll.terminate(0, 33));
        Check.refused(roll, () -> roll.terminate(0, 60));
        Check.eq(roll.terminate(0, 61), 90);
    }

    private static void terminateOnADayThatIsNone() {
        Check.part("promise 21: -9 if the DAY is not one of its days");
        Rentroll roll = new Rentroll();
        roll.flat(0, 50);
        roll.lease(0, 40, 100, 2, 300, 0);
        Check.eq(roll.owed(0, 101, 4), 1);
        Check.refused(roll, () -> roll.terminate(0, 101));
        Check.refused(roll, () -> roll.terminate(0, 1824));
        Check.refused(roll, () -> roll.terminate(0, 39));
        Check.eq(roll.terminate(0, 100), 129);
        // on FROM, if an ADVANCE makes it PRESSING there
        Rentroll first = new Rentroll();
        first.flat(0, 50);
        first.lease(0, 40, 100, 2, 300, 0);
        first.advance(0, 1000);
        Check.refused(first, () -> first.terminate(0, 39));
        Check.eq(first.terminate(0, 40), 69);
    }

    private static void terminateTwice() {
        Check.part("promise 21: -9 if there is one that is not CURED");
        Rentroll roll = withLease();
        roll.terminate(0, 40);
        Check.refused(roll, () -> roll.terminate(0, 40));
        Check.refused(roll, () -> roll.terminate(0, 33));
        Check.refused(roll, () -> roll.terminate(0, 69));
        roll.pay(0, 69, 600, -1);
        Check.eq(roll.ofLease(0, 5), 1);
        // MONTHS 2 and 3 make it PRESSING again on DAY 92
        Check.refused(roll, () -> roll.terminate(0, 91));
        Check.eq(roll.terminate(0, 92), 121);
        Check.eq(roll.ofLease(0, 4), 92);
        Check.refused(roll, () -> roll.terminate(0, 92));
    }

    private static void outWithoutTermination() {
        Check.part("promise 22: -9 if it was not TERMINATED");
        Rentroll roll = withLease();
        Check.refused(roll, () -> roll.out(0));
        roll.notice(0, 0);
        Check.refused(roll, () -> roll.out(0));
        roll.terminate(0, 33);
        roll.undo();
        Check.refused(roll, () -> roll.out(0));
    }

    private static void outOfACuredOne() {
        Check.part("promise 22: -9 if that is CURED");
        Rentroll roll = withLease();
        roll.terminate(0, 33);
        roll.pay(0, 62, 600, -1);
        Check.refused(roll, () -> roll.out(0));
        roll.undo();
        roll.pay(0, 62, 599, -1);
        Check.eq(roll.out(0), 62);
    }

    private static void outWithLastAhead() {
        Check.part("promise 22: -9 if LAST is ahead of what it tells");
        // TERMINATED on DAY 61 it ends with DAY 90; by TO, then by NOTICE, with the day ahead of it
        int[][] toAndAnswer = {{89, -9}, {90, 90}, {91, 90}};
        for (int[] pair : toAndAnswer) {
            Rentroll roll = new Rentroll();
            roll.flat(0, 50);
            roll.lease(0, 0, pair[0], 2, 300, 0);
            roll.terminate(0, 61);
            if (pair[1] == -9) {
                Check.refused(roll, () -> roll.out(0));
            }
            Check.eq(roll.out(0), pair[1]);
            Check.eq(roll.ofLease(0, 1), pair[1] == -9 ? pair[0] : 90);
        }
        Rentroll noticed = withLease();
        noticed.notice(0, 2);
        noticed.terminate(0, 61);
        Check.eq(noticed.ofLease(0, 2), 89);
        Check.refused(noticed, () -> noticed.out(0));
        noticed.undo();
        noticed.terminate(0, 60);
        Check.eq(noticed.out(0), 89);
        // beyond 1824 there is no LAST
        Rentroll late = withLease();
        late.terminate(0, 1796);
        Check.refused(late, () -> late.out(0));
        late.undo();
        late.terminate(0, 1795);
        Check.eq(late.out(0), 1824);
    }

    private static void readAgainstOthers() {
        Check.part("promise 23: -9 if an earlier one is more, or a later one less");
        Rentroll roll = withLease();
        roll.read(0, 100, 50);
        roll.read(0, 200, 80);
        Check.refused(roll, () -> roll.read(0, 101, 49));
        Check.refused(roll, () -> roll.read(0, 199, 81));
        Check.refused(roll, () -> roll.read(0, 99, 51));
        Check.refused(roll, () -> roll.read(0, 0, 51));
        Check.refused(roll, () -> roll.read(0, 201, 79));
        Check.refused(roll, () -> roll.read(0, 1824, 79));
        Check.refused(roll, () -> roll.read(0, 100, 81));
        Check.refused(roll, () -> roll.read(0, 200, 49));
        Check.eq(roll.read(0, 150, 50), 3);
        Check.eq(roll.read(0, 151, 80), 4);
        Check.eq(roll.read(0, 200, 80), 4);
        Check.eq(roll.read(0, 100, 0), 4);
    }

    private static void depositAheadOfTheLastDay() {
        Check.part("promise 26: -9 if the DAY is ahead of the last one");
        Rentroll roll = withSpan();
        roll.deposit(0, 800, 50);
        Check.refused(roll, () -> roll.deposit(0, 799, 5));
        Check.eq(roll.deposit(0, 800, 5), 55);
        roll.use(0, 810, 5);
        Check.refused(roll, () -> roll.deposit(0, 809, 5));
        Check.eq(roll.deposit(0, 810, 5), 55);
        roll.giveBack(0, 820);
        Check.refused(roll, () -> roll.deposit(0, 819, 5));
        Check.eq(roll.deposit(0, 820, 5), 5);
    }

    private static void useAheadOfTheLastDay() {
        Check.part("promise 27: -9 if the DAY is ahead of the last one");
        Rentroll roll = withSpan();
        roll.deposit(0, 800, 50);
        Check.refused(roll, () -> roll.use(0, 799, 5));
        Check.eq(roll.use(0, 800, 5), 45);
        roll.use(0, 810, 5);
        Check.refused(roll, () -> roll.use(0, 809, 5));
        Check.eq(roll.use(0, 810, 5), 35);
    }

    private static void useOfMoreThanThereIs() {
        Check.part("promise 27: -9 if there is less in it");
        Rentroll roll = withSpan();
        Check.refused(roll, () -> roll.use(0, 50, 1));
        roll.deposit(0, 50, 10);
        Check.refused(roll, () -> roll.use(0, 50, 11));
        Check.eq(roll.use(0, 50, 10), 0);
        Check.refused(roll, () -> roll.use(0, 50, 1));
        roll.deposit(0, 60, 10);
        roll.giveBack(0, 800);
        Check.refused(roll, () -> roll.use(0, 800, 1));
    }

    private static void giveBackAheadOfTheLastDay() {
        Check.part("promise 28: -9 if the DAY is ahead of the last one");
        Rentroll roll = withSpan();
        roll.deposit(0, 800, 50);
        Check.refused(roll, () -> roll.giveBack(0, 799));
        Check.eq(roll.giveBack(0, 800), 50);
        Check.refused(roll, () -> roll.giveBack(0, 799));
        Check.eq(roll.giveBack(0, 800), 0);
    }

    private static void giveBackNotBehindLast() {
        Check.part("promise 28: -9 if the DAY is not behind LAST");
        Rentroll roll = withSpan();
        roll.deposit(0, 50, 50);
        Check.refused(roll, () -> roll.giveBack(0, 50));
        Check.refused(roll, () -> roll.giveBack(0, 699));
        Check.refused(roll, () -> roll.giveBack(0, 700));
        Check.eq(roll.giveBack(0, 701), 50);
        // an open one, and one till 1824, has no DAY behind LAST
        Rentroll open = withLease();
        Check.refused(open, () -> open.giveBack(0, 1824));
        roll.option(0, 1000);
        roll.option(0, 1000);
        Check.refused(roll, () -> roll.giveBack(0, 1824));
        // LAST by NOTICE, then by a TERMINATION
        open.notice(0, 0);
        Check.refused(open, () -> open.giveBack(0, 89));
        Check.eq(open.giveBack(0, 90), 0);
        open.undo();
        open.terminate(0, 33);
        Check.refused(open, () -> open.giveBack(0, 62));
        Check.eq(open.giveBack(0, 63), 0);
    }

    private static void onlyWhatWasDoneCanBeUndone() {
        Check.part("promise 30: neither what threw, nor -9, nor a question, nor knock(), nor undo()");
        Rentroll roll = withLease();
        Check.eq(roll.count(7), 2);
        Check.notLet(() -> roll.advance(0, -1));
        Check.eq(roll.count(7), 2);
        Check.eq(roll.option(0, 1), -9);
        Check.eq(roll.count(7), 2);
        roll.digest();
        roll.spoiled(0, 0, 0);
        roll.isSound();
        Check.eq(roll.count(7), 2);
        roll.knock();
        Check.eq(roll.count(7), 2);
        // what answers 0, 1 or NONE is done, too
        Check.eq(roll.index(5, 5), -1);
        Check.eq(roll.advance(0, 0), 0);
        Check.eq(roll.settle(0, 0, 0), 0);
        Check.eq(roll.rate(5, 0), 0);
        Check.eq(roll.count(7), 6);
        Check.eq(roll.undo(), 5);
        Check.eq(roll.count(7), 5);
        Check.eq(roll.count(6), 0);
        Check.eq(roll.undo(), 4);
        Check.eq(roll.undo(), 3);
        Check.eq(roll.count(5), 1);
        Check.eq(roll.undo(), 2);
        Check.eq(roll.count(5), 0);
    }

    private static void undoneOneByOne() {
        Check.part("promise 30: and then the one ahead of it, back to the first");
        Rentroll roll = withLease();
        roll.step(0, 50, 310);
        roll.step(0, 50, 320);
        roll.step(0, 40, 305);
        roll.advance(0, 10);
        roll.advance(0, 20);
        Check.eq(roll.undo(), 6);
        Check.eq(roll.advance(0, 20), 10);
        roll.undo();
        Check.eq(roll.undo(), 5);
        Check.eq(roll.due(0, 5, 1), 0);
        Check.eq(roll.rentOf(0, 45), 305);
        Check.eq(roll.undo(), 4);
        Check.eq(roll.rentOf(0, 45), 300);
        Check.eq(roll.rentOf(0, 50), 320);
        Check.eq(roll.undo(), 3);
        Check.eq(roll.rentOf(0, 50), 310);
        Check.eq(roll.undo(), 2);
        Check.eq(roll.rentOf(0, 50), 300);
        Check.eq(roll.ofLease(0, 6), 1);
        Check.eq(roll.undo(), 1);
        Check.noSuch(() -> roll.text(0));
        Check.eq(roll.undo(), 0);
        Check.eq(roll.count(0), 0);
        Check.notNow(roll::undo);
    }

    private static void undoTakesBackAllButRefused() {
        Check.part("promise 30: all but how many were REFUSED");
        Rentroll roll = withLease();
        String before = Picture.of(roll);
        roll.pay(0, 50, 700, -1);
        Check.eq(roll.undo(), 2);
        Check.eq(Picture.of(roll), before);
        roll.terminate(0, 33);
        roll.knock();
        Check.eq(roll.undo(), 2);
        Check.eq(roll.count(8), 1);
        roll.undo();
        roll.undo();
        Check.eq(roll.count(8), 1);
    }

    private static void whoKnocksIsRefused() {
        Check.part("promise 31: who knocks is REFUSED, ever");
        Rentroll roll = new Rentroll();
        Check.eq(roll.count(8), 0);
        Check.eq(roll.knock(), 1);
        Check.eq(roll.count(8), 1);
        // neither what tells -9 nor what throws is REFUSED
        Check.notLet(() -> roll.flat(3, 5));
        roll.flat(0, 5);
        roll.lease(0, 0, -1, 1, 5, 0);
        Check.eq(roll.option(0, 1), -9);
        Check.eq(roll.count(8), 1);
        Check.eq(roll.knock(), 2);
        Check.eq(roll.undo(), 1);
        Check.eq(roll.knock(), 3);
        // each object has a gate of its own
        Check.eq(new Rentroll().count(8), 0);
    }
}

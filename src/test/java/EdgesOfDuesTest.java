/** "Edges of days and amounts" of the section "What is due", sentence by sentence. */
public final class EdgesOfDuesTest {
    public static void main(String[] args) {
        wholeOrBrokenMonth();
        halvesOfRentGoUp();
        halvesOfAdvanceGoUp();
        aHundredthBelowHalf();
        roundedOnce();
        offAtMost100();
        daysOfADefect();
        freeMonth();
        dueOnFirstPlusTwo();
        dueOnFromIfThatIsLater();
        dueBehindLast();
        dueInTheLastMonth();
        debtIfAboveZero();
        settlementFeeAndRefundOnTheirDays();
        paidOnTheDay();
        paidExactly();
        wordOfAMonthThatIsDue();
        wordCoversTheRentOnly();
        wordsAheadOfNone();
        feesFirst();
        feesOfCredit();
        severalFees();
        orderByDaysThenKinds();
        orderAsTheyWereTold();
        refundedIsTheLastKind();
        creditAtFirst();
        creditCoversDayByDay();
        owedOfDebtsDueByThen();
        rateOfThatDay();
        interestFromTheDayBehindDue();
        interestOfThreeKinds();
        interestIsCut();
        interestOneUnitBelow();
        remindedAheadOfIt();
        remindersFourteenDaysApart();
        remindersOfTheLease();
        twiceTheRentOrMore();
        rentOfThatDay();
        pressingKinds();
        pressingAboveZero();
        pressingByThatDay();
        pressingOfEachLease();
        pressingBesideOwed();
        endsWithTheDay29Later();
        curedBehindThatDayOrOneOf29();
        curedOfDebtsDueByThatDay();
        curedWithNothingOpenAtAll();
        curedOfEachLease();
        curedOfABrokenMonth();
        curedOfTwoKindsOnly();
        curedByOtherPayments();
        curedOnTheLastDay();
        outTillItsDay();
        allElseGoesByLast();
        refundOfAllThereIs();
        Check.end("EdgesOfDuesTest");
    }

    /** A LEASE with a RENT of 300. */
    private static Rentroll lease(int from, int to) {
        Rentroll roll = new Rentroll();
        roll.flat(0, 50);
        roll.lease(0, from, to, 2, 300, 0);
        return roll;
    }

    private static int due(int from, int to, int rent, int way, int month) {
        Rentroll roll = new Rentroll();
        roll.flat(0, 50);
        roll.lease(0, from, to, 2, rent, way);
        return roll.due(0, month, 0);
    }

    private static void wholeOrBrokenMonth() {
        Check.part("DUE: by LENGTH if all days of the MONTH are its days, otherwise by its WAY");
        // MONTH, span, then DUE of WAY 0, 1, 2 for a RENT of 1000
        int[][] all = {
            {2, 59, 89, 1000, 1000, 1000}, {2, 58, 90, 1000, 1000, 1000}, {2, 60, 89, 968, 986, 1000},
            {2, 59, 88, 968, 986, 1000}, {2, 60, 88, 935, 953, 967}, {1, 31, 58, 1000, 1000, 1000},
            {1, 32, 58, 964, 888, 900}, {1, 31, 57, 964, 888, 900}, {3, 90, 119, 1000, 1000, 1000},
            {3, 91, 119, 967, 953, 967}, {3, 119, 119, 33, 33, 33}, {1, 58, 58, 36, 33, 33},
            {59, 1794, 1824, 1000, 1000, 1000}, {59, 1794, 1823, 968, 986, 1000}, {59, 1824, 1824, 32, 33, 33},
            {0, 0, 30, 1000, 1000, 1000}, {0, 0, 0, 32, 33, 33}};
        for (int[] a : all) {
            for (int way = 0; way <= 2; way++) {
                Check.eq(due(a[1], a[2], 1000, way, a[0]), a[3 + way]);
            }
        }
        // an open one has all days of MONTH 59
        for (int way = 0; way <= 2; way++) {
            Check.eq(due(5, -1, 1000, way, 59), 1000);
        }
        // 100000 * 12 / 365 * 30 = 98630.1, 27 days of 30: 90000; a day alone: 3287.7 and 3333.3
        Check.eq(due(1, -1, 100000, 1, 0), 98630);
        Check.eq(due(1, -1, 100000, 2, 0), 100000);
        Check.eq(due(30, -1, 100000, 1, 0), 3288);
        Check.eq(due(30, -1, 100000, 2, 0), 3333);
    }

    private static void halvesOfRentGoUp() {
        Check.part("DUE: rounded, halves go up");
        // 15 and 14 days of 30
        Check.eq(due(90, 104, 1, 0, 3), 1);
        Check.eq(due(90, 103, 1, 0, 3), 0);
        Check.eq(due(90, 104, 3, 0, 3), 2);
        Check.eq(due(105, 119, 5, 0, 3), 3);
        // 14 days of 28
        Check.eq(due(31, 44, 1, 0, 1), 1);
        Check.eq(due(31, 43, 1, 0, 1), 0);
        // by WAY 2: 15 days by 30 in a MONTH of 31
        Check.eq(due(0, 14, 1, 2, 0), 1);
        Check.eq(due(0, 13, 1, 2, 0), 0);
        Check.eq(due(0, 14, 1, 0, 0), 0);
        Check.eq(due(0, 15, 1, 0, 0), 1);
        // by WAY 1 15 days are 0.493, 16 are 0.526
        Check.eq(due(0, 14, 1, 1, 0), 0);
        Check.eq(due(0, 15, 1, 1, 0), 1);
        // half of a RENT of 1 is off
        Rentroll roll = new Rentroll();
        roll.flat(0, 50);
        roll.lease(0, 0, -1, 2, 1, 0);
        roll.defect(0, 0, 1824, 50);
        Check.eq(roll.due(0, 5, 0), 1);
        roll.defect(0, 0, 1824, 1);
        Check.eq(roll.due(0, 5, 0), 0);
    }

    private static void halvesOfAdvanceGoUp() {
        Check.part("DUE of ADVANCE: times its days, by LENGTH, rounded");
        int[][] daysCoinsDue = {{15, 1, 1}, {14, 1, 0}, {15, 3, 2}, {1, 15, 1}, {1, 14, 0}, {29, 15, 15}, {30, 7, 7},
            {1, 100000, 3333}};
        for (int[] a : daysCoinsDue) {
            for (int way = 0; way <= 2; way++) {
                Rentroll roll = new Rentroll();
                roll.flat(0, 50);
                roll.lease(0, 120 - a[0], -1, 2, 300, way);
                roll.advance(0, a[1]);
                Check.eq(roll.due(0, 3, 1), a[2]);
                Check.eq(roll.due(0, 4, 1), a[1]);
            }
        }
        // a MONTH of 31 has no halves: 15 and 16 of 31
        for (int coins = 15; coins <= 16; coins++) {
            Rentroll roll = lease(30, -1);
            roll.advance(0, coins);
            Check.eq(roll.due(0, 0, 1), coins - 15);
        }
    }

    private static void aHundredthBelowHalf() {
        Check.part("DUE: half of a coin, and a hundredth of a day's RENT below it");
        // a RENT of 1 for 15.5 and for 15.49 days of 31
        for (int percent = 50; percent <= 51; percent++) {
            Rentroll whole = new Rentroll();
            whole.flat(0, 50);
            whole.lease(0, 0, -1, 2, 1, 0);
            whole.defect(0, 16, 30, 100);
            whole.defect(0, 15, 15, percent);
            Check.eq(whole.due(0, 0, 0), percent == 50 ? 1 : 0);
        }
        // by WAY 2 for 15 and for 14.99 days of 30
        Rentroll thirty = new Rentroll();
        thirty.flat(0, 50);
        thirty.lease(0, 0, 14, 2, 1, 2);
        Check.eq(thirty.due(0, 0, 0), 1);
        thirty.defect(0, 14, 14, 1);
        Check.eq(thirty.due(0, 0, 0), 0);
        // by WAY 1 for 15.21 and 15.20 days, as 365 / 24 are 15.208
        for (int percent = 79; percent <= 80; percent++) {
            Rentroll year = new Rentroll();
            year.flat(0, 50);
            year.lease(0, 0, 15, 2, 1, 1);
            year.defect(0, 3, 3, percent);
            Check.eq(year.due(0, 0, 0), percent == 79 ? 1 : 0);
        }
    }

    private static void roundedOnce() {
        Check.part("DUE: the sum over its days is rounded once");
        Rentroll roll = new Rentroll();
        roll.flat(0, 50);
        roll.lease(0, 90, -1, 2, 1, 0);
        roll.step(0, 100, 2);
        // 10 days of 1 and 20 of 2: 0.33 and 1.33
        Check.eq(roll.due(0, 3, 0), 2);
        // 7 of 8 off on each day: 0.05 and 0.2 a day
        roll.defect(0, 90, 119, 86);
        Check.eq(roll.due(0, 3, 0), 0);
        roll.step(0, 100, 8);
        // (10 * 0.14 + 20 * 1.12) / 30 = 0.79
        Check.eq(roll.due(0, 3, 0), 1);
    }

    private static void offAtMost100() {
        Check.part("OFF of a day: their sum, at most 100");
        Rentroll roll = new Rentroll();
        roll.flat(0, 50);
        roll.lease(0, 0, -1, 2, 1000, 0);
        roll.defect(0, 0, 30, 60);
        Check.eq(roll.due(0, 0, 0), 400);
        roll.defect(0, 0, 30, 39);
        Check.eq(roll.due(0, 0, 0), 10);
        roll.defect(0, 0, 30, 1);
        Check.eq(roll.due(0, 0, 0), 0);
        roll.defect(0, 0, 30, 1);
        Check.eq(roll.due(0, 0, 0), 0);
        roll.defect(0, 0, 30, 100);
        Check.eq(roll.due(0, 0, 0), 0);
        // what is beyond 100 on one day is not taken off another one: 30 of 31 days
        Rentroll one = lease(0, -1);
        one.defect(0, 5, 5, 100);
        one.defect(0, 5, 5, 100);
        Check.eq(one.due(0, 0, 0), 290);
    }

    private static void daysOfADefect() {
        Check.part("DEFECTS: spans go from a DAY to a DAY, both with it");
        Rentroll roll = new Rentroll();
        roll.flat(0, 50);
        roll.lease(0, 31, 89, 2, 84000, 0);
        // 3000 a day in MONTH 1, 2709.7 in MONTH 2
        int[][] spanAndDue = {{31, 31, 81000, 84000}, {58, 58, 81000, 84000}, {59, 59, 84000, 81290},
            {58, 59, 81000, 81290}, {89, 89, 84000, 81290}, {0, 30, 84000, 84000}, {90, 1824, 84000, 84000},
            {30, 31, 81000, 84000}, {89, 90, 84000, 81290}, {31, 58, 0, 84000}, {0, 1824, 0, 0}};
        Rentroll last = lease(0, -1);
        last.defect(0, 1824, 1824, 100);
        Check.eq(last.due(0, 59, 0), 290);
        last.defect(0, 0, 0, 100);
        Check.eq(last.due(0, 0, 0), 290);
        for (int[] a : spanAndDue) {
            roll.defect(0, a[0], a[1], 100);
            Check.eq(roll.due(0, 1, 0), a[2]);
            Check.eq(roll.due(0, 2, 0), a[3]);
            roll.undo();
        }
    }

    private static void freeMonth() {
        Check.part("DUE: 0 in a FREE MONTH, the ADVANCE stays");
        Rentroll roll = lease(15, 100);
        roll.advance(0, 31);
        for (int month : new int[] {0, 1, 3}) {
            int rent = roll.due(0, month, 0);
            int advance = roll.due(0, month, 1);
            Check.yes(rent > 0 && advance > 0);
            Check.eq(roll.freeMonth(0, month), 1);
            Check.eq(roll.due(0, month, 0), 0);
            Check.eq(roll.due(0, month, 1), advance);
            Check.eq(roll.open(0, month, 1824), 0);
            Check.eq(roll.freeMonth(0, month), 0);
            Check.eq(roll.due(0, month, 0), rent);
        }
        roll.freeMonth(0, 0);
        Check.eq(roll.owed(0, 15, 3), 1);
        roll.advance(0, 0);
        Check.eq(roll.owed(0, 15, 3), 0);
        // a MONTH in which it has no days can be FREE, too
        Check.eq(roll.freeMonth(0, 59), 1);
        Check.eq(roll.ofLease(0, 10), 2);
    }

    private static void dueOnFirstPlusTwo() {
        Check.part("DEBTS: on FIRST + 2");
        Rentroll roll = lease(0, -1);
        int[] lengths = {31, 28, 31, 30, 31, 30, 31, 31, 30, 31, 30, 31};
        int first = 0;
        for (int month = 0; month < 60; month++) {
            Check.eq(roll.open(0, month, first + 1), 0);
            Check.eq(roll.open(0, month, first + 2), 300);
            Check.eq(roll.owed(0, first + 1, 3), month);
            Check.eq(roll.owed(0, first + 2, 3), month + 1);
            first += lengths[month % 12];
        }
    }

    private static void dueOnFromIfThatIsLater() {
        Check.part("DEBTS: or on FROM, if that is later");
        // MONTH 2 begins with DAY 59
        int[][] fromAndDay = {{58, 61}, {59, 61}, {60, 61}, {61, 61}, {62, 62}, {63, 63}, {89, 89}};
        for (int[] pair : fromAndDay) {
            Rentroll roll = lease(pair[0], -1);
            roll.advance(0, 31);
            Check.eq(roll.open(0, 2, pair[1] - 1), 0);
            Check.eq(roll.open(0, 2, pair[1]), roll.due(0, 2, 0));
            Check.eq(roll.owed(0, pair[1], 3) - roll.owed(0, pair[1] - 1, 3), 2);
            // the next MONTH is due on FIRST + 2
            Check.eq(roll.open(0, 3, 91), 0);
            Check.eq(roll.open(0, 3, 92), 300);
        }
    }

    private static void dueBehindLast() {
        Check.part("DEBTS: on FIRST + 2, though LAST is ahead of it");
        Rentroll roll = lease(0, 31);
        Check.eq(roll.due(0, 1, 0), 11);
        Check.eq(roll.open(0, 1, 32), 0);
        Check.eq(roll.open(0, 1, 33), 11);
        Check.eq(roll.owed(0, 1824, 0), 311);
        Check.eq(roll.pay(0, 33, 311, -1), 1);
        Check.eq(roll.owed(0, 33, 0), 0);
    }

    private static void dueInTheLastMonth() {
        Check.part("DEBTS of MONTH 59, and of a LEASE from DAY 1824 on");
        Rentroll roll = lease(0, -1);
        Check.eq(roll.open(0, 59, 1795), 0);
        Check.eq(roll.open(0, 59, 1796), 300);
        Check.eq(roll.open(0, 59, 1824), 300);
        Rentroll last = lease(1824, -1);
        Check.eq(last.owed(0, 1823, 0), 0);
        Check.eq(last.owed(0, 1824, 0), 10);
        Check.eq(last.open(0, 59, 1823), 0);
        Check.eq(last.open(0, 59, 1824), 10);
        last.pay(0, 1824, 12, 59);
        Check.eq(last.owed(0, 1824, 0), 0);
        Check.eq(last.owed(0, 1824, 1), 2);
        // and of DAY 0 alone
        Rentroll first = lease(0, 0);
        Check.eq(first.owed(0, 1, 0), 0);
        Check.eq(first.owed(0, 2, 0), 10);
    }

    private static void debtIfAboveZero() {
        Check.part("DEBTS: if above 0");
        Rentroll roll = new Rentroll();
        roll.flat(0, 50);
        roll.lease(0, 90, 90, 1, 14, 0);
        roll.advance(0, 14);
        Check.eq(roll.owed(0, 1824, 3), 0);
        roll.advance(0, 15);
        Check.eq(roll.owed(0, 1824, 3), 1);
        Check.eq(roll.owed(0, 1824, 0), 1);
        roll.step(0, 90, 15);
        Check.eq(roll.owed(0, 1824, 3), 2);
        roll.pay(0, 92, 1, -1);
        Check.eq(roll.owed(0, 92, 3), 1);
    }

    private static void settlementFeeAndRefundOnTheirDays() {
        Check.part("DEBTS: KIND 2, 3, 4 on their DAYS");
        Rentroll roll = lease(0, 30);
        roll.bill(0, 2, 0, 0, 70, 100);
        roll.settle(0, 0, 100);
        Check.eq(roll.owed(0, 99, 0), 300);
        Check.eq(roll.owed(0, 100, 0), 370);
        roll.remind(0, 200);
        Check.eq(roll.owed(0, 199, 0), 370);
        Check.eq(roll.owed(0, 200, 0), 375);
        roll.pay(0, 300, 400, -1);
        Check.eq(roll.refund(0, 310, 25), 0);
        Check.eq(roll.owed(0, 309, 1), 25);
        Check.eq(roll.owed(0, 310, 1), 0);
        // on the first and on the last DAY
        Rentroll edge = lease(0, 30);
        edge.bill(0, 2, 0, 0, 70, 100);
        edge.settle(0, 0, 0);
        Check.eq(edge.owed(0, 0, 0), 70);
        edge.undo();
        edge.settle(0, 0, 1824);
        Check.eq(edge.owed(0, 1823, 0), 300);
        Check.eq(edge.owed(0, 1824, 0), 370);
        edge.remind(0, 1824);
        Check.eq(edge.owed(0, 1824, 0), 375);
    }

    private static void paidOnTheDay() {
        Check.part("PAYMENTS cover DAY by DAY: ahead of the DEBT's DAY, on it, behind it");
        for (int day = 0; day <= 4; day++) {
            Rentroll roll = lease(0, 30);
            roll.pay(0, day, 300, 0);
            for (int at = 0; at <= 5; at++) {
                Check.eq(roll.owed(0, at, 0), at >= 2 && at < day ? 300 : 0);
                Check.eq(roll.owed(0, at, 1), at >= day && at < 2 ? 300 : 0);
            }
            Check.eq(roll.open(0, 0, 1824), 0);
        }
    }

    private static void paidExactly() {
        Check.part("PAYMENTS: a coin less, exactly, a coin more");
        for (int coins = 299; coins <= 301; coins++) {
            for (int word = -1; word <= 0; word++) {
                Rentroll roll = lease(0, -1);
                roll.pay(0, 40, coins, word);
                Check.eq(roll.open(0, 0, 40), Math.max(300 - coins, 0));
                Check.eq(roll.open(0, 1, 40), coins == 301 ? 299 : 300);
                Check.eq(roll.owed(0, 40, 3), coins == 299 ? 2 : 1);
                roll.pay(0, 40, 600 - coins, -1);
                Check.eq(roll.owed(0, 40, 3), 0);
                Check.eq(roll.owed(0, 40, 1), 0);
                roll.pay(0, 40, 1, -1);
                Check.eq(roll.owed(0, 40, 1), 1);
            }
        }
    }

    private static void wordOfAMonthThatIsDue() {
        Check.part("PAYMENTS: a WORD, if that DEBT is OPEN and due by then");
        // MONTH 1 is due on DAY 33
        int[][] dayWordAndOpen = {{32, 1, 200, 300}, {33, 1, 300, 200}, {34, 1, 300, 200}, {33, 0, 200, 300},
            {33, 2, 200, 300}, {33, 59, 200, 300}, {33, -1, 200, 300}};
        for (int[] a : dayWordAndOpen) {
            Rentroll roll = lease(0, -1);
            roll.pay(0, a[0], 100, a[1]);
            Check.eq(roll.open(0, 0, 40), a[2]);
            Check.eq(roll.open(0, 1, 40), a[3]);
        }
        // one that is covered is OPEN no more, and a FREE one has none
        Rentroll roll = lease(0, -1);
        roll.pay(0, 40, 300, 1);
        roll.pay(0, 41, 100, 1);
        Check.eq(roll.open(0, 0, 41), 200);
        roll.freeMonth(0, 1);
        Check.eq(roll.open(0, 0, 40), 0);
        Check.eq(roll.owed(0, 41, 1), 100);
        // what was CREDIT on DAY 32 has lost its WORD
        Rentroll lost = lease(0, -1);
        lost.pay(0, 1, 100, 1);
        Check.eq(lost.open(0, 0, 33), 200);
        Check.eq(lost.open(0, 1, 33), 300);
    }

    private static void wordCoversTheRentOnly() {
        Check.part("PAYMENTS: the WORD is of the DEBT of KIND 0 alone");
        Rentroll roll = lease(0, -1);
        roll.advance(0, 50);
        roll.pay(0, 40, 350, 1);
        // 300 of MONTH 1, then in the ORDER: 50 of MONTH 0
        Check.eq(roll.open(0, 1, 40), 0);
        Check.eq(roll.open(0, 0, 40), 250);
        Check.eq(roll.owed(0, 40, 0), 350);
        Check.eq(roll.owed(0, 40, 3), 3);
        // the same with MONTH 0 as the WORD: what is left goes to its ADVANCE, which is next in the ORDER
        Rentroll first = lease(0, -1);
        first.advance(0, 50);
        first.pay(0, 40, 351, 0);
        Check.eq(first.open(0, 0, 40), 0);
        Check.eq(first.open(0, 1, 40), 299);
    }

    private static void wordsAheadOfNone() {
        Check.part("PAYMENTS of that DAY: in whatever order they were told");
        int[][] told = {{100, -1}, {400, 1}, {50, 1}, {20, 2}};
        int[][] orders = {{0, 1, 2, 3}, {3, 2, 1, 0}, {1, 3, 0, 2}, {2, 0, 3, 1}};
        for (int[] order : orders) {
            Rentroll roll = lease(0, -1);
            for (int at : order) {
                roll.pay(0, 61, told[at][0], told[at][1]);
            }
            // 400 and 50 cover MONTH 1 and leave 150, which with 100 is 250 of MONTH 0; 20 are MONTH 2's
            Check.eq(roll.open(0, 0, 61), 50);
            Check.eq(roll.open(0, 1, 61), 0);
            Check.eq(roll.open(0, 2, 61), 280);
            Check.eq(roll.owed(0, 60, 0), 600);
        }
    }

    private static void feesFirst() {
        Check.part("ORDER: FEES first, by DAYS, those due by then");
        Rentroll roll = lease(0, -1);
        roll.remind(0, 40);
        roll.remind(0, 60);
        roll.pay(0, 39, 5, -1);
        Check.eq(roll.open(0, 0, 39), 295);
        roll.pay(0, 40, 7, -1);
        // 5 for the FEE, 2 for MONTH 0; the FEE of DAY 60 is not due yet
        Check.eq(roll.open(0, 0, 40), 293);
        Check.eq(roll.owed(0, 40, 0), 593);
        Check.eq(roll.owed(0, 59, 3), 2);
        Check.eq(roll.owed(0, 60, 3), 3);
        roll.pay(0, 60, 4, -1);
        Check.eq(roll.owed(0, 60, 3), 3);
        Check.eq(roll.open(0, 0, 60), 293);
        roll.pay(0, 60, 1, -1);
        Check.eq(roll.owed(0, 60, 3), 2);
        // ahead of older RENTS and SETTLEMENTS, too
        Rentroll older = lease(0, 30);
        older.bill(0, 2, 0, 0, 50, 100);
        older.settle(0, 0, 10);
        older.remind(0, 40);
        older.pay(0, 39, 299, -1);
        Check.eq(older.owed(0, 40, 0), 1 + 50 + 5);
        older.pay(0, 41, 6, -1);
        Check.eq(older.open(0, 0, 41), 0);
        Check.eq(older.owed(0, 41, 0), 50);
    }

    private static void feesOfCredit() {
        Check.part("CREDIT covers in the ORDER: FEES first");
        // told when MONTH 0 was OPEN, which is paid later with 2 coins more
        for (int day : new int[] {10, 33}) {
            Rentroll roll = lease(0, -1);
            Check.eq(roll.remind(0, day), 1);
            roll.pay(0, 5, 302, -1);
            Check.eq(roll.owed(0, day - 1, 1), 2);
            Check.eq(roll.owed(0, day, 1), 0);
            Check.eq(roll.owed(0, day, 0), day == 10 ? 3 : 303);
            Check.eq(roll.open(0, 1, 33), 300);
            Check.eq(roll.owed(0, 33, 2), 300);
            roll.pay(0, 34, 4, -1);
            Check.eq(roll.open(0, 1, 34), 299);
        }
    }

    private static void severalFees() {
        Check.part("ORDER: FEES by DAYS, and how many are OPEN");
        Rentroll roll = lease(0, 30);
        roll.remind(0, 100);
        roll.remind(0, 50);
        roll.remind(0, 150);
        int[] days = {49, 50, 99, 100, 149, 150};
        int[] counts = {1, 2, 2, 3, 3, 4};
        for (int at = 0; at < days.length; at++) {
            Check.eq(roll.owed(0, days[at], 3), counts[at]);
            Check.eq(roll.owed(0, days[at], 0), 300 + 5 * (counts[at] - 1));
        }
        // on DAY 150 five coins a FEE, then the RENT
        roll.pay(0, 150, 9, -1);
        Check.eq(roll.owed(0, 150, 3), 3);
        Check.eq(roll.owed(0, 150, 0), 306);
        roll.pay(0, 150, 1, -1);
        Check.eq(roll.owed(0, 150, 3), 2);
        roll.pay(0, 150, 6, -1);
        Check.eq(roll.owed(0, 150, 3), 1);
        Check.eq(roll.open(0, 0, 150), 299);
    }

    private static void orderByDaysThenKinds() {
        Check.part("ORDER: then by DAYS, then by KINDS");
        // a SETTLEMENT of 100 on DAY 32 is ahead of MONTH 1, on DAY 33 it is behind its RENT and its ADVANCE
        for (int day = 32; day <= 34; day++) {
            Rentroll roll = lease(0, -1);
            roll.advance(0, 50);
            roll.bill(0, 2, 0, 364, 700, 100);
            Check.eq(roll.settle(0, 0, day), 1);
            roll.pay(0, 34, 350, -1);
            Check.eq(roll.owed(0, 34, 0), 450);
            roll.pay(0, 34, 100, -1);
            Check.eq(roll.owed(0, 34, 2), day == 32 ? 350 : 250);
            roll.pay(0, 34, 200, -1);
            Check.eq(roll.open(0, 1, 34), day == 32 ? 100 : 0);
            roll.pay(0, 34, 50, -1);
            Check.eq(roll.owed(0, 34, 2), day == 32 ? 100 : 0);
            Check.eq(roll.owed(0, 34, 3), day == 32 ? 2 : 1);
            Check.eq(roll.owed(0, 34, 0), 100);
        }
        // RENT ahead of ADVANCE, and all of a MONTH ahead of the next one
        Rentroll kinds = lease(0, -1);
        kinds.advance(0, 50);
        kinds.pay(0, 33, 299, -1);
        Check.eq(kinds.owed(0, 33, 3), 4);
        kinds.pay(0, 33, 1, -1);
        Check.eq(kinds.owed(0, 33, 3), 3);
        kinds.pay(0, 33, 50, -1);
        Check.eq(kinds.owed(0, 33, 3), 2);
        Check.eq(kinds.open(0, 1, 33), 300);
    }

    private static void orderAsTheyWereTold() {
        Check.part("ORDER: then as they were told");
        for (int first = 0; first <= 1; first++) {
            // SETTLEMENTS of two YEARS on one DAY, of 70 and of 80 coins
            Rentroll roll = lease(0, -1);
            roll.step(0, 0, 1);
            roll.bill(0, 2, 0, 0, 70, 100);
            roll.bill(0, 2, 365, 365, 80, 100);
            roll.settle(0, first, 1);
            roll.settle(0, 1 - first, 1);
            Check.eq(roll.owed(0, 1, 3), 2);
            roll.pay(0, 1, 70, -1);
            Check.eq(roll.owed(0, 1, 3), first == 0 ? 1 : 2);
            roll.pay(0, 1, 10, -1);
            Check.eq(roll.owed(0, 1, 3), 1);
            Check.eq(roll.owed(0, 1, 0), 70);
        }
    }

    private static void refundedIsTheLastKind() {
        Check.part("ORDER: KIND 4 behind the others of its DAY, ahead of those of the next");
        Rentroll same = lease(0, -1);
        same.pay(0, 2, 400, -1);
        Check.eq(same.refund(0, 2, 100), 0);
        same.step(0, 0, 350);
        Check.eq(same.open(0, 0, 2), 0);
        Check.eq(same.owed(0, 2, 0), 50);
        Check.eq(same.owed(0, 2, 2), 0);
        Check.eq(same.owed(0, 2, 3), 1);
        // REFUNDED on DAYS 1 and 0 of a CREDIT of 100: the second time it lacks on DAY 1
        Rentroll twice = lease(0, -1);
        twice.pay(0, 0, 100, -1);
        Check.eq(twice.refund(0, 1, 100), 0);
        Check.eq(twice.refund(0, 0, 100), 0);
        Check.eq(twice.owed(0, 0, 0), 0);
        Check.eq(twice.owed(0, 1, 0), 100);
        Check.eq(twice.owed(0, 2, 0), 400);
        twice.pay(0, 2, 100, -1);
        Check.eq(twice.open(0, 0, 2), 300);
        Check.eq(twice.owed(0, 2, 0), 300);
    }

    private static void creditAtFirst() {
        Check.part("CREDIT: 0 at first, then what is still left");
        Rentroll roll = lease(0, 30);
        Check.eq(roll.owed(0, 0, 1), 0);
        Check.eq(roll.owed(0, 1824, 1), 0);
        roll.pay(0, 0, 1, -1);
        Check.eq(roll.owed(0, 0, 1), 1);
        Check.eq(roll.owed(0, 1, 1), 1);
        Check.eq(roll.owed(0, 2, 1), 0);
        Check.eq(roll.owed(0, 2, 0), 299);
        roll.pay(0, 1824, 100000, -1);
        Check.eq(roll.owed(0, 1823, 1), 0);
        Check.eq(roll.owed(0, 1824, 1), 99701);
    }

    private static void creditCoversDayByDay() {
        Check.part("CREDIT covers as long as there is some");
        Rentroll roll = lease(0, -1);
        roll.pay(0, 0, 750, -1);
        int[] days = {1, 2, 32, 33, 60, 61};
        int[] credits = {750, 450, 450, 150, 150, 0};
        int[] owed = {0, 0, 0, 0, 0, 150};
        for (int at = 0; at < days.length; at++) {
            Check.eq(roll.owed(0, days[at], 1), credits[at]);
            Check.eq(roll.owed(0, days[at], 0), owed[at]);
        }
        Check.eq(roll.open(0, 2, 61), 150);
        Check.eq(roll.owed(0, 60, 3), 0);
        Check.eq(roll.owed(0, 61, 3), 1);
    }

    private static void owedOfDebtsDueByThen() {
        Check.part("OWED on a DAY: of DEBTS due by then, behind that DAY");
        Rentroll roll = lease(0, -1);
        roll.pay(0, 33, 100, -1);
        int[] days = {0, 1, 2, 32, 33, 34, 60, 61, 1824};
        int[] owed = {0, 0, 300, 300, 500, 500, 500, 800, 17900};
        for (int at = 0; at < days.length; at++) {
            Check.eq(roll.owed(0, days[at], 0), owed[at]);
            Check.eq(roll.owed(0, days[at], 2), owed[at]);
        }
    }

    private static void rateOfThatDay() {
        Check.part("RATES change on DAYS; 0 at first; times the RATE of that day");
        Rentroll roll = lease(0, -1);
        roll.rate(10, 7);
        roll.rate(12, 5000);
        roll.rate(13, 0);
        String[] units = {"0", "2100", "2100", "1500000", "0"};
        for (int day = 9; day <= 13; day++) {
            Check.eq(roll.interest(0, day, day, true), units[day - 9]);
        }
        Check.eq(roll.interest(0, 9, 13, true), "1504200");
        Check.eq(roll.interest(0, 10, 12, true), "1504200");
        Check.eq(roll.interest(0, 11, 11, true), "2100");
        // told on the last DAY it bears on that DAY alone
        Rentroll last = lease(0, -1);
        last.rate(1824, 2);
        Check.eq(last.interest(0, 0, 1823, true), "0");
        Check.eq(last.interest(0, 0, 1824, true), "36000");
        Check.eq(last.interest(0, 1824, 1824, true), "36000");
    }

    private static void interestFromTheDayBehindDue() {
        Check.part("UNITS: OPEN behind that day, of DEBTS due ahead of it");
        Rentroll roll = lease(0, -1);
        roll.rate(0, 1);
        String[] units = {"0", "0", "0", "300", "300"};
        for (int day = 0; day <= 4; day++) {
            Check.eq(roll.interest(0, day, day, true), units[day]);
        }
        Check.eq(roll.interest(0, 33, 33, true), "300");
        Check.eq(roll.interest(0, 34, 34, true), "600");
        roll.pay(0, 40, 100, -1);
        Check.eq(roll.interest(0, 39, 39, true), "600");
        Check.eq(roll.interest(0, 40, 40, true), "500");
        // paid on the DAY behind that on which it is due, it bears none
        Rentroll paid = lease(0, 30);
        paid.rate(0, 1);
        paid.pay(0, 3, 300, -1);
        Check.eq(paid.interest(0, 0, 1824, true), "0");
        paid.undo();
        paid.pay(0, 4, 300, -1);
        Check.eq(paid.interest(0, 0, 1824, true), "300");
        // due on DAY 1823 it bears on DAY 1824, due on that DAY it does not
        for (int from = 1822; from <= 1824; from++) {
            Rentroll late = lease(from, -1);
            late.rate(0, 1);
            int days = 1825 - from;
            int due = Math.round(300f * days / 31);
            Check.eq(late.interest(0, 1824, 1824, true), from == 1824 ? "0" : "" + due);
        }
    }

    private static void interestOfThreeKinds() {
        Check.part("UNITS: of DEBTS of KIND 0, 1, 2");
        Rentroll roll = new Rentroll();
        roll.flat(0, 50);
        roll.lease(0, 0, 30, 2, 300, 0);
        roll.rate(0, 1);
        Check.eq(roll.interest(0, 500, 500, true), "300");
        roll.advance(0, 40);
        Check.eq(roll.interest(0, 500, 500, true), "340");
        // a SETTLEMENT of 70: the ADVANCE of YEAR 0 is 40
        roll.bill(0, 2, 0, 0, 110, 100);
        roll.settle(0, 0, 499);
        Check.eq(roll.interest(0, 499, 499, true), "340");
        Check.eq(roll.interest(0, 500, 500, true), "410");
        Check.eq(roll.interest(0, 501, 501, true), "410");
        Check.eq(roll.interest(0, 700, 701, true), "820");
        roll.remind(0, 400);
        Check.eq(roll.interest(0, 500, 500, true), "410");
        Check.eq(roll.interest(0, 700, 701, true), "820");
        // KIND 4 that is OPEN bears none
        Rentroll twice = lease(0, -1);
        twice.rate(0, 1);
        twice.pay(0, 0, 100, -1);
        twice.refund(0, 1, 100);
        twice.refund(0, 0, 100);
        Check.eq(twice.owed(0, 2, 0), 400);
        Check.eq(twice.interest(0, 2, 2, true), "0");
        Check.eq(twice.interest(0, 3, 3, true), "300");
    }

    private static void interestIsCut() {
        Check.part("Coins of interest: UNITS / 3650000, cut");
        Rentroll roll = new Rentroll();
        roll.flat(0, 50);
        roll.lease(0, 0, 30, 2, 3650, 0);
        roll.rate(0, 1000);
        roll.rate(4, 999);
        roll.rate(5, 1);
        Check.eq(roll.interest(0, 3, 3, true), "3650000");
        Check.eq(roll.interest(0, 3, 3, false), "1");
        Check.eq(roll.interest(0, 4, 4, true), "3646350");
        Check.eq(roll.interest(0, 4, 4, false), "0");
        // cut once: both days and one more unit of 3650
        Check.eq(roll.interest(0, 3, 4, false), "1");
        Check.eq(roll.interest(0, 4, 5, false), "1");
        Check.eq(roll.interest(0, 3, 5, true), "7300000");
        Check.eq(roll.interest(0, 3, 5, false), "2");
        // interest is no DEBT
        Check.eq(roll.owed(0, 1824, 0), 3650);
    }

    private static void interestOneUnitBelow() {
        Check.part("Coins of interest: 3649999 UNITS are none, 3650000 are one");
        Rentroll roll = new Rentroll();
        roll.flat(0, 50);
        roll.lease(0, 0, 30, 2, 3649, 0);
        roll.rate(3, 1000);
        roll.rate(4, 0);
        roll.pay(0, 10, 2650, -1);
        roll.rate(10, 1);
        roll.rate(11, 0);
        roll.pay(0, 20, 998, -1);
        roll.rate(20, 1);
        roll.rate(21, 0);
        Check.eq(roll.interest(0, 0, 19, true), "3649999");
        Check.eq(roll.interest(0, 0, 19, false), "0");
        Check.eq(roll.interest(0, 0, 20, true), "3650000");
        Check.eq(roll.interest(0, 0, 20, false), "1");
        Check.eq(roll.interest(0, 0, 1824, false), "1");
    }

    private static void remindedAheadOfIt() {
        Check.part("REMIND: if DEBTS that were due ahead of it are OPEN behind it");
        int[] days = {1, 2, 3, 4};
        for (int day : days) {
            Check.eq(lease(0, -1).remind(0, day), day <= 2 ? -9 : 1);
            Rentroll late = lease(1820, -1);
            Check.eq(late.remind(0, 1819 + day), day == 1 ? -9 : 1);
        }
        // a LEASE from DAY 1824 on is due on that DAY itself
        Check.eq(lease(1824, -1).remind(0, 1824), -9);
        // KIND 1 alone, KIND 2 alone; KIND 3 and 4 alone do not
        Rentroll kinds = lease(0, 30);
        kinds.advance(0, 40);
        kinds.pay(0, 5, 300, -1);
        Check.eq(kinds.remind(0, 5), 1);
        kinds.pay(0, 20, 45, -1);
        Check.eq(kinds.remind(0, 20), -9);
        kinds.bill(0, 2, 0, 0, 90, 100);
        kinds.settle(0, 0, 40);
        Check.eq(kinds.remind(0, 40), -9);
        Check.eq(kinds.remind(0, 41), 2);
        Rentroll twice = lease(0, -1);
        twice.pay(0, 0, 100, -1);
        twice.refund(0, 1, 100);
        twice.refund(0, 0, 100);
        Check.eq(twice.owed(0, 2, 0), 400);
        Check.eq(twice.remind(0, 2), -9);
    }

    private static void remindersFourteenDaysApart() {
        Check.part("REMIND: no reminder of the LEASE is less than 14 days away");
        for (int apart = 12; apart <= 15; apart++) {
            Rentroll roll = lease(0, -1);
            roll.remind(0, 100);
            Check.eq(roll.remind(0, 100 + apart), apart < 14 ? -9 : 2);
            Check.eq(roll.remind(0, 100 - apart), apart < 14 ? -9 : 3);
        }
        Rentroll ends = lease(0, -1);
        Check.eq(ends.remind(0, 1824), 1);
        Check.eq(ends.remind(0, 1811), -9);
        Check.eq(ends.remind(0, 1810), 2);
        Check.eq(ends.remind(0, 3), 3);
        Check.eq(ends.remind(0, 16), -9);
        Check.eq(ends.remind(0, 17), 4);
        // 5 coins each
        Check.eq(ends.owed(0, 1824, 0) - ends.owed(0, 1824, 2), 20);
    }

    private static void remindersOfTheLease() {
        Check.part("REMIND: no reminder of the LEASE, neither of another one, nor what is REFUNDED");
        Rentroll roll = lease(0, -1);
        roll.flat(0, 50);
        roll.lease(1, 0, -1, 1, 200, 0);
        Check.eq(roll.remind(1, 100), 1);
        Check.eq(roll.remind(0, 100), 1);
        Check.eq(roll.remind(1, 113), -9);
        Check.eq(roll.remind(1, 114), 2);
        Check.eq(roll.remind(0, 87), -9);
        Check.eq(roll.ofLease(0, 8), 1);
        Check.eq(roll.ofLease(1, 8), 2);
        Rentroll refunded = lease(0, -1);
        refunded.pay(0, 0, 100, -1);
        Check.eq(refunded.refund(0, 0, 50), 50);
        Check.eq(refunded.refund(0, 1, 10), 40);
        Check.eq(refunded.ofLease(0, 8), 0);
        Check.eq(refunded.remind(0, 3), 1);
        // one that is UNDONE is none
        refunded.undo();
        Check.eq(refunded.remind(0, 4), 1);
    }

    private static void twiceTheRentOrMore() {
        Check.part("PRESSING: twice the RENT of that day (or more)");
        for (int left = 599; left <= 601; left++) {
            Rentroll roll = lease(0, 58);
            roll.advance(0, 1);
            roll.pay(0, 33, 602 - left, -1);
            Check.eq(roll.owed(0, 33, 2), left);
            Check.eq(roll.owed(0, 33, 4), left < 600 ? 0 : 1);
            Check.eq(roll.pressing(0, 1824), left < 600 ? -1 : 33);
            Check.eq(roll.terminate(0, 33), left < 600 ? -9 : 62);
        }
        // twice the greatest RENT
        Rentroll great = new Rentroll();
        great.flat(0, 50);
        great.lease(0, 0, -1, 1, 100000, 0);
        Check.eq(great.pressing(0, 1824), 33);
        great.pay(0, 33, 1, -1);
        Check.eq(great.pressing(0, 60), -1);
    }

    private static void rentOfThatDay() {
        Check.part("PRESSING: the RENT of that day");
        // from DAY 34 on 301: MONTH 1 is 300.9, so that 601 are OPEN, which is less than 602
        Rentroll roll = lease(0, -1);
        roll.step(0, 34, 301);
        Check.eq(roll.owed(0, 33, 0), 601);
        Check.eq(roll.owed(0, 33, 4), 1);
        Check.eq(roll.owed(0, 34, 4), 0);
        Check.eq(roll.pressing(0, 1824), 33);
        Check.eq(roll.terminate(0, 34), -9);
        roll.step(0, 33, 301);
        Check.eq(roll.owed(0, 33, 4), 0);
        Check.eq(roll.pressing(0, 60), -1);
        // a RENT that becomes less makes it PRESSING on that DAY
        Rentroll less = lease(0, -1);
        less.step(0, 20, 150);
        less.defect(0, 0, 30, 1);
        Check.eq(less.owed(0, 19, 4), 0);
        Check.eq(less.owed(0, 20, 2), 244);
        Check.eq(less.owed(0, 20, 4), 0);
        less.step(0, 20, 1);
        Check.eq(less.owed(0, 20, 4), 1);
        Check.eq(less.pressing(0, 1824), 20);
    }

    private static void pressingKinds() {
        Check.part("PRESSING: DEBTS of KIND 0 and 1");
        Rentroll roll = lease(0, 30);
        roll.bill(0, 2, 0, 0, 5000, 100);
        roll.settle(0, 0, 5);
        roll.remind(0, 10);
        Check.eq(roll.owed(0, 20, 0), 5305);
        Check.eq(roll.owed(0, 20, 2), 300);
        Check.eq(roll.owed(0, 20, 4), 0);
        Check.eq(roll.pressing(0, 1824), -1);
        roll.advance(0, 299);
        Check.eq(roll.owed(0, 20, 4), 0);
        roll.advance(0, 300);
        Check.eq(roll.owed(0, 2, 4), 1);
        Check.eq(roll.owed(0, 1, 4), 0);
        Check.eq(roll.pressing(0, 1824), 2);
    }

    private static void pressingAboveZero() {
        Check.part("PRESSING: and above 0");
        Rentroll roll = lease(40, 100);
        // ahead of FROM the RENT is 0, and nothing is OPEN
        Check.eq(roll.owed(0, 0, 4), 0);
        Check.eq(roll.owed(0, 39, 4), 0);
        Check.eq(roll.pressing(0, 39), -1);
        Rentroll one = new Rentroll();
        one.flat(0, 50);
        one.lease(0, 0, -1, 1, 1, 0);
        Check.eq(one.owed(0, 32, 4), 0);
        Check.eq(one.owed(0, 33, 4), 1);
        one.pay(0, 33, 2, -1);
        Check.eq(one.owed(0, 33, 4), 0);
    }

    private static void pressingByThatDay() {
        Check.part("promise 40: the first of its days, not behind that DAY");
        Rentroll roll = lease(0, -1);
        Check.eq(roll.pressing(0, 32), -1);
        Check.eq(roll.pressing(0, 33), 33);
        Check.eq(roll.pressing(0, 34), 33);
        // of its days: LAST is ahead of DAY 33, on DAY 33
        for (int to = 32; to <= 34; to++) {
            Rentroll brief = lease(0, to);
            brief.advance(0, 300);
            brief.pay(0, 2, 1, -1);
            Check.eq(brief.pressing(0, 1824), to < 33 ? -1 : 33);
        }
        // the first one may be FROM, DAY 0 is none, as FIRST + 2 is the first on which something is due
        Rentroll from = lease(40, 40);
        from.advance(0, 100000);
        Check.eq(from.pressing(0, 1824), 40);
        Check.eq(from.pressing(0, 39), -1);
        Rentroll last = lease(1824, 1824);
        last.advance(0, 100000);
        Check.eq(last.pressing(0, 1823), -1);
        Check.eq(last.pressing(0, 1824), 1824);
    }

    private static void pressingOfEachLease() {
        Check.part("promise 40: by the days and DEBTS of that LEASE");
        Rentroll roll = lease(0, 20);
        roll.flat(0, 50);
        roll.flat(0, 50);
        roll.lease(1, 0, -1, 1, 300, 0);
        roll.lease(2, 100, -1, 1, 300, 0);
        Check.eq(roll.pressing(0, 1824), -1);
        Check.eq(roll.pressing(1, 1824), 33);
        // 20 of 30 days, then MONTH 4, then MONTH 5 on DAY 153
        Check.eq(roll.pressing(2, 1824), 153);
        Check.eq(roll.pressing(1, 1824), 33);
        Rentroll turned = lease(100, -1);
        turned.flat(0, 50);
        turned.lease(1, 0, 20, 1, 300, 0);
        Check.eq(turned.pressing(0, 1824), 153);
        Check.eq(turned.pressing(1, 1824), -1);
        // whatever a NOTICE tells
        Rentroll noticed = lease(0, -1);
        noticed.notice(0, 0);
        Check.eq(noticed.ofLease(0, 2), 89);
        Check.eq(noticed.pressing(0, 1824), 33);
    }

    private static void pressingBesideOwed() {
        Check.part("PRESSING as if no TERMINATION were, OWED as it is, though a day is all that is between");
        // LAST is 90, TO is 91: MONTH 3 has 20 or 10; twice the RENT of DAY 92 is 920
        Rentroll roll = lease(0, 91);
        roll.step(0, 92, 460);
        roll.terminate(0, 61);
        for (int turn = 0; turn < 3; turn++) {
            Check.eq(roll.owed(0, 92, 2), 910);
            Check.eq(roll.owed(0, 92, 4), 1);
            Check.eq(roll.due(0, 3, 0), 10);
            Check.eq(roll.pressing(0, 1824), 33);
        }
        roll.step(0, 92, 461);
        Check.eq(roll.owed(0, 92, 4), 0);
        Check.eq(roll.owed(0, 92, 2), 910);
    }

    private static void endsWithTheDay29Later() {
        Check.part("TERMINATE: the LEASE ends with the day 29 later, told as it is, also beyond 1824");
        int[][] dayToldAndLast = {{33, 62, 62}, {34, 63, 63}, {1794, 1823, 1823}, {1795, 1824, 1824},
            {1796, 1825, 1824}, {1824, 1853, 1824}};
        for (int[] a : dayToldAndLast) {
            Rentroll roll = lease(0, -1);
            Check.eq(roll.terminate(0, a[0]), a[1]);
            Check.eq(roll.ofLease(0, 2), a[2]);
            Check.eq(roll.ofLease(0, 4), a[0]);
            Check.eq(roll.tenant(0, a[2]), 0);
            Check.eq(roll.tenant(0, Math.min(a[2] + 1, 1824)), a[2] == 1824 ? 0 : -1);
        }
    }

    private static void curedBehindThatDayOrOneOf29() {
        Check.part("CURED: behind that DAY, or behind one of the 29 later ones");
        for (int day : new int[] {32, 33, 34, 61, 62, 63, 64}) {
            Rentroll roll = lease(0, 58);
            roll.terminate(0, 33);
            roll.pay(0, day, 600, -1);
            Check.eq(roll.ofLease(0, 5), day <= 62 ? 1 : 0);
        }
        // a coin less is not enough
        Rentroll roll = lease(0, -1);
        roll.terminate(0, 33);
        roll.pay(0, 33, 599, -1);
        Check.eq(roll.ofLease(0, 5), 0);
        roll.pay(0, 63, 1, -1);
        Check.eq(roll.ofLease(0, 5), 0);
        roll.pay(0, 62, 1, -1);
        Check.eq(roll.ofLease(0, 5), 1);
    }

    private static void curedOfDebtsDueByThatDay() {
        Check.part("CURED: nothing of DEBTS that were due by that DAY");
        // MONTH 2 is due on DAY 61: of a TERMINATION on that DAY it is to be paid, on the DAY ahead it is not
        for (int day = 60; day <= 62; day++) {
            for (int coins : new int[] {599, 600, 899, 900}) {
                Rentroll roll = lease(0, -1);
                Check.eq(roll.terminate(0, day), day + 29);
                roll.pay(0, 70, coins, -1);
                Check.eq(roll.ofLease(0, 5), coins >= (day == 60 ? 600 : 900) ? 1 : 0);
            }
        }
    }

    private static void curedWithNothingOpenAtAll() {
        Check.part("CURED: nothing of them is OPEN, neither the oldest nor the latest");
        for (int word = 0; word <= 1; word++) {
            Rentroll roll = lease(0, -1);
            roll.terminate(0, 33);
            roll.pay(0, 40, 300, word);
            Check.eq(roll.open(0, 1 - word, 40), 300);
            Check.eq(roll.ofLease(0, 5), 0);
            roll.pay(0, 40, 300, 1 - word);
            Check.eq(roll.ofLease(0, 5), 1);
        }
        // only the ADVANCE of the first MONTH is left
        Rentroll advance = lease(0, -1);
        advance.advance(0, 1);
        advance.terminate(0, 33);
        advance.pay(0, 40, 300, 0);
        advance.pay(0, 40, 300, 1);
        Check.eq(advance.owed(0, 40, 2), 2);
        Check.eq(advance.ofLease(0, 5), 0);
        advance.pay(0, 40, 1, -1);
        Check.eq(advance.ofLease(0, 5), 0);
        advance.pay(0, 40, 1, -1);
        Check.eq(advance.ofLease(0, 5), 1);
    }

    private static void curedOfEachLease() {
        Check.part("CURED: each of twelve LEASES by what was paid for it");
        Rentroll roll = new Rentroll();
        for (int lease = 0; lease < 12; lease++) {
            if (lease < 6) {
                roll.flat(0, 50);
            }
            roll.lease(lease % 6, lease < 6 ? 0 : 200, lease < 6 ? 199 : -1, 1, 300, 0);
        }
        for (int lease = 0; lease < 12; lease++) {
            Check.eq(roll.terminate(lease, lease < 6 ? 33 : 245), lease < 6 ? 62 : 274);
        }
        for (int paid = 11; paid >= 0; paid--) {
            Check.eq(roll.out(paid), paid < 6 ? 62 : 274);
            roll.undo();
            // 12 of 31 days are 116
            roll.pay(paid, paid < 6 ? 62 : 274, paid < 6 ? 600 : 716, -1);
            Check.eq(roll.out(paid), -9);
            for (int lease = 0; lease < 12; lease++) {
                Check.eq(roll.ofLease(lease, 5), lease >= paid ? 1 : 0);
            }
            Check.eq(roll.ofLease(paid, 2), paid < 6 ? 199 : 1824);
        }
    }

    private static void curedOfABrokenMonth() {
        Check.part("CURED: the last MONTH is as long as TO lets it be, as if no TERMINATION were");
        // TO is 61: three of 31 days are 29, due on DAY 61
        for (int coins = 628; coins <= 629; coins++) {
            Rentroll roll = lease(0, 61);
            Check.eq(roll.terminate(0, 61), 90);
            roll.pay(0, 61, coins, -1);
            Check.eq(roll.ofLease(0, 5), coins - 628);
        }
        // TO is behind LAST: 300 are due on DAY 61, though LAST is 90 and MONTH 2 ends with DAY 89
        for (int coins = 899; coins <= 900; coins++) {
            Rentroll roll = lease(0, 95);
            roll.terminate(0, 61);
            roll.pay(0, 90, coins, -1);
            Check.eq(roll.ofLease(0, 5), coins - 899);
        }
    }

    private static void curedOfTwoKindsOnly() {
        Check.part("CURED: of DEBTS of KIND 0 and 1");
        Rentroll roll = lease(0, -1);
        roll.advance(0, 10);
        roll.terminate(0, 33);
        roll.pay(0, 40, 619, -1);
        Check.eq(roll.ofLease(0, 5), 0);
        roll.pay(0, 40, 1, -1);
        Check.eq(roll.ofLease(0, 5), 1);
        // a SETTLEMENT and a FEE that come behind do not matter
        roll.bill(0, 2, 0, 364, 5000, 100);
        roll.settle(0, 0, 41);
        Check.eq(roll.ofLease(0, 5), 1);
        Check.eq(roll.remind(0, 42), 1);
        Check.eq(roll.ofLease(0, 5), 1);
        // those that come ahead take of what was paid
        Check.eq(roll.remind(0, 28), 2);
        Check.eq(roll.ofLease(0, 5), 0);
        roll.pay(0, 40, 5, -1);
        Check.eq(roll.ofLease(0, 5), 1);
        // a SETTLEMENT that is OPEN, of a DAY behind that of the MONTHS
        Rentroll settled = lease(0, 58);
        settled.bill(0, 2, 0, 0, 5000, 100);
        settled.settle(0, 0, 33);
        settled.terminate(0, 33);
        settled.pay(0, 33, 600, -1);
        Check.eq(settled.owed(0, 33, 0), 5000);
        Check.eq(settled.ofLease(0, 5), 1);
    }

    private static void curedByOtherPayments() {
        Check.part("CURED: by a DEPOSIT that is USED, by a SETTLEMENT below 0, by CREDIT");
        Rentroll used = lease(0, -1);
        used.deposit(0, 0, 600);
        used.terminate(0, 33);
        Check.eq(used.use(0, 62, 600), 0);
        Check.eq(used.ofLease(0, 5), 1);
        used.undo();
        used.use(0, 63, 600);
        Check.eq(used.ofLease(0, 5), 0);
        Rentroll settled = lease(0, 58);
        settled.advance(0, 10000);
        settled.terminate(0, 33);
        Check.eq(settled.settle(0, 0, 62), 1);
        // 20000 of ADVANCE come back, 600 of RENT are still to be paid
        Check.eq(settled.settled(0, 0), -20000);
        Check.eq(settled.ofLease(0, 5), 0);
        settled.pay(0, 62, 599, -1);
        Check.eq(settled.ofLease(0, 5), 0);
        settled.pay(0, 62, 1, -1);
        Check.eq(settled.ofLease(0, 5), 1);
    }

    private static void curedOnTheLastDay() {
        Check.part("CURED: the 29 later ones end with DAY 1824");
        Rentroll roll = lease(0, -1);
        roll.terminate(0, 1824);
        roll.pay(0, 1824, 17999, -1);
        Check.eq(roll.ofLease(0, 5), 0);
        roll.pay(0, 1824, 1, -1);
        Check.eq(roll.ofLease(0, 5), 1);
        Rentroll earlier = lease(0, -1);
        earlier.terminate(0, 1800);
        earlier.pay(0, 1824, 18000, -1);
        Check.eq(earlier.ofLease(0, 5), 1);
        Rentroll exact = lease(0, -1);
        exact.terminate(0, 1795);
        Check.eq(exact.ofLease(0, 2), 1824);
        // MONTH 59 is due on DAY 1796 only
        exact.pay(0, 1824, 59 * 300, -1);
        Check.eq(exact.ofLease(0, 5), 1);
    }

    private static void outTillItsDay() {
        Check.part("OUT: TO is LAST from then on");
        Rentroll roll = lease(0, -1);
        roll.terminate(0, 33);
        Check.eq(roll.ofLease(0, 1), -1);
        Check.eq(roll.out(0), 62);
        Check.eq(roll.ofLease(0, 1), 62);
        Check.eq(roll.ofLease(0, 2), 62);
        Check.eq(roll.lease(0, 62, -1, 1, 5, 0), -9);
        Check.eq(roll.lease(0, 63, -1, 1, 5, 0), 1);
        Check.eq(roll.tenant(0, 62), 0);
        Check.eq(roll.tenant(0, 63), 1);
        Check.yes(roll.isSound());
    }

    private static void allElseGoesByLast() {
        Check.part("only PRESSING and CURED are looked at as if no TERMINATION were");
        Rentroll roll = lease(0, -1);
        roll.rate(0, 1);
        roll.terminate(0, 33);
        // two MONTHS and 4 of 31 days
        Check.eq(roll.due(0, 2, 0), 39);
        Check.eq(roll.due(0, 3, 0), 0);
        Check.eq(roll.open(0, 2, 61), 39);
        Check.eq(roll.open(0, 3, 1824), 0);
        Check.eq(roll.owed(0, 1824, 0), 639);
        Check.eq(roll.owed(0, 1824, 3), 3);
        Check.eq(roll.owed(0, 1824, 4), 1);
        Check.eq(roll.interest(0, 1824, 1824, true), "639");
        Check.eq(roll.remind(0, 120), 1);
        roll.undo();
        // all of it paid, but too late: nothing is OWED, there is nothing to remind of, but it would be PRESSING
        roll.pay(0, 100, 640, -1);
        Check.eq(roll.ofLease(0, 5), 0);
        Check.eq(roll.owed(0, 100, 0), 0);
        Check.eq(roll.owed(0, 1824, 0), 0);
        Check.eq(roll.owed(0, 1824, 1), 1);
        Check.eq(roll.open(0, 3, 1824), 0);
        Check.eq(roll.remind(0, 120), -9);
        Check.eq(roll.interest(0, 100, 1824, true), "0");
        Check.eq(roll.owed(0, 1824, 4), 1);
        Check.eq(roll.refund(0, 200, 1), 0);
        Check.yes(roll.isSound());
        // DEBTS behind LAST stay, and bear interest
        Rentroll late = lease(0, -1);
        late.rate(0, 1);
        late.terminate(0, 61);
        Check.eq(late.ofLease(0, 2), 90);
        Check.eq(late.open(0, 3, 91), 0);
        Check.eq(late.open(0, 3, 92), 10);
        Check.eq(late.interest(0, 93, 93, true), "910");
    }

    private static void refundOfAllThereIs() {
        Check.part("promise 18: all CREDIT there is, and one coin more");
        Rentroll roll = lease(0, 30);
        roll.pay(0, 2, 310, -1);
        Check.eq(roll.refund(0, 1, 1), -9);
        Check.eq(roll.refund(0, 2, 11), -9);
        Check.eq(roll.refund(0, 2, 10), 0);
        Check.eq(roll.refund(0, 2, 1), -9);
        roll.pay(0, 1824, 2, -1);
        Check.eq(roll.refund(0, 1823, 1), -9);
        Check.eq(roll.refund(0, 1824, 1), 1);
        Check.eq(roll.refund(0, 1824, 1), 0);
        Check.eq(roll.owed(0, 1824, 0), 0);
        // on DAY 0, ahead of all DEBTS
        Rentroll first = lease(0, 30);
        first.pay(0, 0, 5, -1);
        Check.eq(first.refund(0, 0, 5), 0);
        Check.eq(first.owed(0, 0, 0), 0);
        Check.eq(first.owed(0, 2, 0), 300);
    }
}

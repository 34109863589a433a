/** "Full": what there may be at most, and that one less is let, and one more is not. */
public final class FullTest {
    public static void main(String[] args) {
        flatsAtMostEight();
        leasesAtMostTwelve();
        rowsAtMostNine();
        billsAtMostTwelve();
        worksAtMostTen();
        nineDefectsOfALease();
        defectsOfEachLease();
        roomAgainWhenUndone();
        allSixtyIndexValues();
        allFreeMonths();
        allMostAtOnce();
        allTwelveAreSettled();
        as512CallsOfSteps();
        as512CallsOfShifts();
        as512CallsOfPayments();
        as512CallsOfReadings();
        as512CallsOfReminders();
        as512CallsOfRefunds();
        as512CallsOfDeposits();
        as512CallsOfUses();
        as512CallsOfRates();
        as512CallsOfHeads();
        as512CallsOfFreeMonths();
        as512CallsOfSettlements();
        as512CallsOfUndoing();
        as512Knocks();
        Check.end("FullTest");
    }

    private static Rentroll withLease() {
        Rentroll roll = new Rentroll();
        roll.flat(0, 50);
        roll.lease(0, 0, -1, 2, 300, 0);
        return roll;
    }

    private static void flatsAtMostEight() {
        Check.part("FLATS, at most 8");
        Rentroll roll = new Rentroll();
        for (int flat = 0; flat < 8; flat++) {
            Check.eq(roll.flat(flat % 3, 10 + flat), flat);
        }
        for (int house = 0; house <= 2; house++) {
            int of = house;
            Check.stays(roll, () -> roll.flat(of, 5), "IllegalStateException");
        }
        Check.eq(roll.count(0), 8);
        Check.eq(roll.area(7, 1824), 17);
        Check.noSuch(() -> roll.area(8, 0));
        Check.eq(roll.lease(7, 0, -1, 1, 5, 0), 0);
    }

    private static void leasesAtMostTwelve() {
        Check.part("LEASES, at most 12");
        Rentroll roll = new Rentroll();
        roll.flat(0, 5);
        roll.flat(1, 5);
        for (int lease = 0; lease < 12; lease++) {
            Check.eq(roll.lease(lease % 2, lease * 10, lease * 10 + 9, 1, 5, 0), lease);
        }
        Check.stays(roll, () -> roll.lease(0, 1000, 1001, 1, 5, 0), "IllegalStateException");
        Check.stays(roll, () -> roll.lease(1, 1824, -1, 1, 5, 0), "IllegalStateException");
        Check.eq(roll.count(1), 12);
        Check.eq(roll.ofLease(11, 0), 110);
        Check.noSuch(() -> roll.ofLease(12, 0));
    }

    private static void rowsAtMostNine() {
        Check.part("told rents for 1 of AREA, at most 9");
        Rentroll roll = withLease();
        for (int row = 1; row <= 9; row++) {
            Check.eq(roll.compare(0, row), row);
        }
        Check.stays(roll, () -> roll.compare(0, 500), "IllegalStateException");
        // of another HOUSE there is room
        Check.eq(roll.compare(1, 500), 1);
        Check.eq(roll.compare(2, 500), 1);
        // the middle one of all nine is 5: 250, which is no more than 300
        Check.refused(roll, () -> roll.raise(0, 5));
        roll.step(0, 0, 249);
        Check.eq(roll.raise(0, 5), 250);
    }

    private static void billsAtMostTwelve() {
        Check.part("BILLS, at most 12");
        Rentroll roll = withLease();
        for (int bill = 0; bill < 12; bill++) {
            Check.eq(roll.bill(bill % 3, bill % 5, 0, bill, 10 + bill, 100), bill);
        }
        for (int house = 0; house <= 2; house++) {
            int of = house;
            Check.stays(roll, () -> roll.bill(of, 0, 0, 5, 5, 5), "IllegalStateException");
        }
        Check.eq(roll.count(2), 12);
        Check.eq(roll.share(11, -1), 21);
        Check.noSuch(() -> roll.share(12, -1));
    }

    private static void worksAtMostTen() {
        Check.part("WORKS, at most 10");
        Rentroll roll = new Rentroll();
        roll.flat(0, 5);
        roll.flat(0, 5);
        for (int work = 0; work < 10; work++) {
            Check.eq(roll.work(work % 2, work, work, 1 + work), work);
        }
        Check.stays(roll, () -> roll.work(0, 50, 51, 5), "IllegalStateException");
        Check.stays(roll, () -> roll.work(1, 50, 51, 5), "IllegalStateException");
        Check.eq(roll.count(4), 10);
        Check.eq(roll.best(0), "0 2 4 6 8");
        Check.eq(roll.best(1), "1 3 5 7 9");
    }

    private static void nineDefectsOfALease() {
        Check.part("nine DEFECTS of a LEASE");
        Rentroll roll = withLease();
        roll.flat(0, 50);
        roll.lease(1, 0, -1, 2, 300, 0);
        for (int defect = 1; defect <= 9; defect++) {
            Check.eq(roll.defect(0, 0, 30, 10), defect);
        }
        Check.eq(roll.due(0, 0, 0), 30);
        Check.stays(roll, () -> roll.defect(0, 0, 30, 10), "IllegalStateException");
        Check.eq(roll.due(0, 0, 0), 30);
        Check.eq(roll.ofLease(0, 7), 9);
        // of another LEASE there is room
        Check.eq(roll.defect(1, 0, 30, 10), 1);
    }

    private static void defectsOfEachLease() {
        Check.part("nine DEFECTS of each LEASE");
        Rentroll roll = new Rentroll();
        roll.flat(0, 5);
        for (int lease = 0; lease < 12; lease++) {
            roll.lease(0, 31 * lease, 31 * lease + 30, 1, 5, 0);
        }
        for (int defect = 1; defect <= 9; defect++) {
            for (int lease = 11; lease >= 0; lease--) {
                Check.eq(roll.defect(lease, defect, defect + lease, 1), defect);
            }
        }
        for (int lease = 0; lease < 12; lease++) {
            int of = lease;
            Check.eq(roll.ofLease(lease, 7), 9);
            Check.notNow(() -> roll.defect(of, 0, 0, 1));
        }
    }

    private static void roomAgainWhenUndone() {
        Check.part("what is UNDONE makes room");
        Rentroll roll = withLease();
        for (int nine = 0; nine < 9; nine++) {
            roll.defect(0, 0, 0, 1);
        }
        roll.undo();
        Check.eq(roll.defect(0, 5, 5, 1), 9);
        Check.notNow(() -> roll.defect(0, 5, 5, 1));
        for (int nine = 0; nine < 9; nine++) {
            roll.compare(0, 5);
        }
        roll.undo();
        Check.eq(roll.compare(0, 6), 9);
        Check.notNow(() -> roll.compare(0, 6));
        for (int work = 0; work < 10; work++) {
            roll.work(0, 5, 5, 5);
        }
        roll.undo();
        Check.eq(roll.work(0, 5, 5, 5), 9);
        Check.notNow(() -> roll.work(0, 5, 5, 5));
        for (int bill = 0; bill < 12; bill++) {
            roll.bill(0, 0, 5, 5, 5, 5);
        }
        roll.undo();
        Check.eq(roll.bill(0, 0, 5, 5, 5, 5), 11);
        Check.notNow(() -> roll.bill(0, 0, 5, 5, 5, 5));
    }

    private static void allSixtyIndexValues() {
        Check.part("an INDEX for each MONTH");
        Rentroll roll = withLease();
        roll.clause(0, 0, 50);
        for (int month = 0; month < 60; month++) {
            Check.eq(roll.index(month, 100 + month), -1);
        }
        Check.eq(roll.count(5), 60);
        Check.eq(roll.index(59, 200), 159);
        Check.eq(roll.index(0, 100), 100);
        Check.eq(roll.count(5), 60);
        // 300 * 200 / 100, at most 300 * 150 / 100
        Check.eq(roll.adjust(0, 59), 450);
        Check.eq(roll.rentOf(0, 1793), 300);
        Check.eq(roll.rentOf(0, 1794), 450);
    }

    private static void allFreeMonths() {
        Check.part("all MONTHS FREE");
        Rentroll roll = withLease();
        for (int month = 0; month < 60; month++) {
            Check.eq(roll.freeMonth(0, month), 1);
        }
        Check.eq(roll.ofLease(0, 10), 60);
        Check.eq(roll.owed(0, 1824, 0), 0);
        Check.eq(roll.freeMonth(0, 59), 0);
        Check.eq(roll.ofLease(0, 10), 59);
        Check.eq(roll.owed(0, 1824, 0), 300);
    }

    private static void allMostAtOnce() {
        Check.part("all limits reached at once");
        Rentroll roll = new Rentroll();
        for (int flat = 0; flat < 8; flat++) {
            roll.flat(0, 500);
        }
        for (int lease = 0; lease < 12; lease++) {
            roll.lease(lease % 8, lease < 8 ? 0 : 1000, lease < 8 ? 999 : 1824, 6, 100000, lease % 3);
            roll.advance(lease, 100000);
            roll.read(lease % 8, lease < 8 ? 0 : 1824, lease < 8 ? 0 : 100000);
        }
        for (int bill = 0; bill < 12; bill++) {
            roll.bill(0, bill % 5, 0, 1824, 100000, 100);
        }
        roll.rate(0, 5000);
        for (int bill = 0; bill < 12; bill++) {
            int sum = roll.share(bill, -1);
            for (int lease = 0; lease < 12; lease++) {
                sum += roll.share(bill, lease);
            }
            Check.eq(sum, 100000);
        }
        Check.eq(roll.owner(0, 4, 4) + roll.owner(0, 4, 5), 1200000);
        // eight LEASES till DAY 999 (5 days of 30 are 16666.7), four from DAY 1000 on (26 of 30)
        Check.eq(roll.owner(0, 0, 0), 8 * 12 * 100000);
        Check.eq(roll.owner(0, 4, 1), 4 * 12 * 100000);
        Check.eq(roll.settle(0, 4, 1824), 12);
        Check.yes(roll.isSound());
    }

    private static void allTwelveAreSettled() {
        Check.part("a SETTLEMENT for each of twelve LEASES");
        Rentroll roll = new Rentroll();
        roll.flat(0, 500);
        for (int lease = 0; lease < 12; lease++) {
            roll.lease(0, lease, lease, 1, 5, 0);
        }
        roll.bill(0, 0, 0, 11, 12 * 7 + 3, 100);
        // 7.25 each: the three coins that are left go to LEASES 0 to 2
        Check.eq(roll.settle(0, 0, 50), 12);
        for (int lease = 0; lease < 12; lease++) {
            Check.eq(roll.settled(lease, 0), lease < 3 ? 8 : 7);
            Check.eq(roll.share(0, lease), lease < 3 ? 8 : 7);
        }
        Check.eq(roll.undo(), 14);
        for (int lease = 0; lease < 12; lease++) {
            Check.eq(roll.settled(lease, 0), 0);
            Check.eq(roll.ofLease(lease, 11), 0);
        }
    }

    // ---- "An object is used for at most 512 calls": each of these makes the last of them

    private static void as512CallsOfSteps() {
        Check.part("512 calls: STEPS");
        Rentroll roll = withLease();
        for (int call = 2; call < 510; call++) {
            Check.eq(roll.step(0, call * 3, call), call == 2 ? 300 : call - 1);
        }
        Check.eq(roll.ofLease(0, 6), 509);
        Check.eq(roll.rentOf(0, 1824), 509);
    }

    private static void as512CallsOfShifts() {
        Check.part("512 calls: SHIFTS");
        Rentroll roll = new Rentroll();
        roll.flat(0, 500);
        roll.flat(0, 500);
        for (int call = 2; call <= 500; call++) {
            Check.eq(roll.shift(0, 1, 1, call * 3), 501 - call);
        }
        Check.eq(roll.shift(0, 1, 1, 1824), -9);
        Check.eq(roll.area(0, 1824), 1);
        Check.eq(roll.area(1, 1824), 999);
        Check.eq(roll.area(0, 6), 499);
    }

    private static void as512CallsOfPayments() {
        Check.part("512 calls: PAYMENTS");
        Rentroll roll = withLease();
        for (int call = 2; call < 510; call++) {
            Check.eq(roll.pay(0, call * 3, 100000, call % 61 - 1), call - 1);
        }
        Check.eq(roll.owed(0, 1824, 1), 508 * 100000 - 60 * 300);
        Check.eq(roll.count(3), 508);
    }

    private static void as512CallsOfReadings() {
        Check.part("512 calls: READINGS");
        Rentroll roll = new Rentroll();
        roll.flat(0, 5);
        for (int call = 1; call < 509; call++) {
            Check.eq(roll.read(0, call * 3, call * 10), call);
        }
        Check.eq(roll.reading(0, 1524), 5080);
        Check.eq(roll.reading(0, 1823), 5080);
        Check.eq(roll.reading(0, 4), 13);
    }

    private static void as512CallsOfReminders() {
        Check.part("512 calls: reminders, each of them UNDONE but those 14 days apart");
        Rentroll roll = withLease();
        int told = 0;
        for (int call = 2; call < 509; call++) {
            int day = call * 3;
            boolean isLate = told == 0 || day >= 6 + (told - 1) * 15 + 14;
            Check.eq(roll.remind(0, day), isLate ? told + 1 : -9);
            told += isLate ? 1 : 0;
        }
        Check.eq(roll.ofLease(0, 8), told);
        Check.eq(roll.count(7), 2 + told);
        Check.eq(roll.owed(0, 1824, 0), 60 * 300 + 5 * told);
    }

    private static void as512CallsOfRefunds() {
        Check.part("512 calls: REFUNDED");
        Rentroll roll = withLease();
        roll.pay(0, 1800, 100000, -1);
        int credit = 100000 - 60 * 300;
        for (int call = 3; call < 510; call++) {
            credit--;
            Check.eq(roll.refund(0, 1801, 1), credit);
        }
        Check.eq(roll.owed(0, 1824, 1), credit);
        Check.eq(roll.owed(0, 1824, 0), 0);
    }

    private static void as512CallsOfDeposits() {
        Check.part("512 calls: put into a DEPOSIT");
        Rentroll roll = withLease();
        for (int call = 2; call < 509; call++) {
            Check.eq(roll.deposit(0, call * 3, 100000), (call - 1) * 100000);
        }
        Check.eq(roll.depositOf(0, 1824, 0), 507 * 100000);
        Check.eq(roll.depositOf(0, 6, 0), 100000);
        Check.eq(roll.undo(), 508);
    }

    private static void as512CallsOfUses() {
        Check.part("512 calls: USED of a DEPOSIT");
        Rentroll roll = withLease();
        roll.deposit(0, 0, 100000);
        for (int call = 3; call < 509; call++) {
            Check.eq(roll.use(0, call * 3, 1), 100000 - (call - 2));
        }
        Check.eq(roll.owed(0, 1824, 0), 60 * 300 - 506);
        Check.eq(roll.count(3), 0);
        Check.eq(roll.depositOf(0, 1824, 0), 100000 - 506);
    }

    private static void as512CallsOfRates() {
        Check.part("512 calls: RATES");
        Rentroll roll = withLease();
        for (int call = 2; call < 510; call++) {
            Check.eq(roll.rate(call * 3, call), call == 2 ? 0 : call - 1);
        }
        Check.eq(roll.count(6), 508);
        Check.eq(roll.interest(0, 1824, 1824, true), Long.toString(60L * 300 * 509));
    }

    private static void as512CallsOfHeads() {
        Check.part("512 calls: HEADS");
        Rentroll roll = withLease();
        for (int call = 2; call < 511; call++) {
            Check.eq(roll.heads(0, call * 3, 1 + call % 6), call == 2 ? 2 : 1 + (call - 1) % 6);
        }
        Check.eq(roll.undo(), 510);
    }

    private static void as512CallsOfFreeMonths() {
        Check.part("512 calls: FREE MONTHS");
        Rentroll roll = withLease();
        for (int call = 2; call < 511; call++) {
            Check.eq(roll.freeMonth(0, call % 60), 1 - (call - 2) / 60 % 2);
        }
        // 509 calls: 8 times all 60, then 29 of them once more
        Check.eq(roll.ofLease(0, 10), 29);
    }

    private static void as512CallsOfSettlements() {
        Check.part("512 calls: SETTLEMENTS of twelve LEASES each");
        Rentroll roll = new Rentroll();
        roll.flat(0, 500);
        for (int lease = 0; lease < 12; lease++) {
            roll.lease(0, 1460 + lease * 20, 1460 + lease * 20 + 9, 1, 300, 0);
        }
        int made = 0;
        for (int call = 13; call < 509; call += 2) {
            roll.advance(call / 2 % 12, call);
            made += roll.settle(0, 4, call);
        }
        int told = 0;
        for (int lease = 0; lease < 2; lease++) {
            told += roll.ofLease(lease, 11);
        }
        Check.yes(made >= 248);
        Check.yes(told >= 2 * 20);
        Check.yes(roll.isSound());
    }

    private static void as512CallsOfUndoing() {
        Check.part("512 calls: 256 done, all of them UNDONE");
        Rentroll roll = new Rentroll();
        for (int call = 0; call < 255; call++) {
            Check.eq(roll.rate(call, call), call == 0 ? 0 : call - 1);
        }
        for (int call = 254; call >= 0; call--) {
            Check.eq(roll.undo(), call);
        }
        Check.notNow(roll::undo);
        Check.eq(roll.count(6), 0);
    }

    private static void as512Knocks() {
        Check.part("512 calls: knocks");
        Rentroll roll = new Rentroll();
        for (int call = 1; call <= 511; call++) {
            Check.eq(roll.knock(), call);
        }
        Check.eq(roll.count(8), 511);
    }
}

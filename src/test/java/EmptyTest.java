/** "Empty": a new object, and houses, flats and leases without what a question is about. */
public final class EmptyTest {
    public static void main(String[] args) {
        newObjectHasNothing();
        newObjectKnowsNoNumbers();
        newObjectIsSoundAndHasADigest();
        nothingToUndo();
        houseWithoutFlats();
        houseWithoutLeases();
        houseWithoutBills();
        houseWithoutRows();
        flatWithoutReadings();
        flatWithoutLease();
        flatWithoutWorks();
        leaseAtFirst();
        leaseWithoutClause();
        leaseWithoutDeposit();
        leaseWithoutDebts();
        rateWithoutAnyTold();
        noWeightsOfHeads();
        noWeightsOnSomeDays();
        noWeightsOfMeters();
        noWeightsOfMixed();
        nothingLaid();
        monthWithoutDays();
        Check.end("EmptyTest");
    }

    private static Rentroll withLease() {
        Rentroll roll = new Rentroll();
        roll.flat(0, 50);
        roll.lease(0, 40, 100, 2, 300, 0);
        return roll;
    }

    private static void newObjectHasNothing() {
        Check.part("promise 1: an empty roll");
        Rentroll roll = new Rentroll();
        for (int what = 0; what <= 8; what++) {
            Check.eq(roll.count(what), 0);
        }
        for (int house = 0; house <= 2; house++) {
            for (int year = 0; year <= 4; year++) {
                for (int what = 0; what <= 5; what++) {
                    Check.eq(roll.owner(house, year, what), 0);
                }
            }
        }
    }

    private static void newObjectKnowsNoNumbers() {
        Check.part("promise 1: no FLAT, no LEASE, no BILL");
        Rentroll roll = new Rentroll();
        Check.noSuch(() -> roll.shift(0, 1, 5, 5));
        Check.noSuch(() -> roll.lease(0, 0, 5, 1, 5, 0));
        Check.noSuch(() -> roll.read(0, 0, 0));
        Check.noSuch(() -> roll.work(0, 0, 0, 1));
        Check.noSuch(() -> roll.area(0, 0));
        Check.noSuch(() -> roll.tenant(0, 0));
        Check.noSuch(() -> roll.reading(0, 0));
        Check.noSuch(() -> roll.free(0));
        Check.noSuch(() -> roll.best(0));
        Check.noSuch(() -> roll.advance(0, 0));
        Check.noSuch(() -> roll.pay(0, 0, 1, -1));
        Check.noSuch(() -> roll.adjust(0, 0));
        Check.noSuch(() -> roll.out(0));
        Check.noSuch(() -> roll.ofLease(0, 0));
        Check.noSuch(() -> roll.owed(0, 0, 0));
        Check.noSuch(() -> roll.text(0));
        Check.noSuch(() -> roll.spoiled(0, 0, 0));
        // there is no BILL, not even for the OWNER, and NONE is no LEASE elsewhere
        Check.noSuch(() -> roll.share(0, -1));
        Check.noSuch(() -> roll.exactShare(0, -1));
        Check.noSuch(() -> roll.text(-1));
        Check.noSuch(() -> roll.free(-1));
    }

    private static void newObjectIsSoundAndHasADigest() {
        Check.part("promises 52 and 53: of nothing");
        Check.yes(new Rentroll().isSound());
        // 6508 * 31^10 + 1: nine counts of 0, then 1, as it is sound
        Check.eq(new Rentroll().digest(), 6508L * 819628286980801L + 1);
    }

    private static void nothingToUndo() {
        Check.part("promise 30: none can be UNDONE");
        Rentroll roll = new Rentroll();
        Check.stays(roll, roll::undo, "IllegalStateException");
        roll.knock();
        Check.stays(roll, roll::undo, "IllegalStateException");
        Check.notLet(() -> roll.flat(3, 5));
        Check.stays(roll, roll::undo, "IllegalStateException");
        roll.flat(0, 5);
        Check.eq(roll.undo(), 0);
        Check.stays(roll, roll::undo, "IllegalStateException");
    }

    private static void houseWithoutFlats() {
        Check.part("a HOUSE without FLATS: each KEY is borne by the OWNER");
        Rentroll roll = withLease();
        for (int key = 0; key <= 4; key++) {
            Check.eq(roll.bill(1, key, 0, 9, 100, 90), key);
            Check.eq(roll.share(key, -1), 100);
            Check.eq(roll.exactShare(key, -1), "90.000000");
            Check.eq(roll.share(key, 0), 0);
        }
        Check.eq(roll.settle(1, 0, 5), 0);
        Check.eq(roll.owner(1, 0, 5), 500);
        Check.eq(roll.owner(1, 0, 4), 0);
        Check.eq(roll.owner(1, 0, 0), 0);
        Check.yes(roll.isSound());
    }

    private static void houseWithoutLeases() {
        Check.part("a HOUSE without LEASES: the OWNER has all");
        Rentroll roll = new Rentroll();
        roll.flat(0, 50);
        roll.flat(0, 70);
        roll.read(0, 0, 0);
        roll.read(0, 9, 90);
        for (int key = 0; key <= 4; key++) {
            roll.bill(0, key, 0, 8, 90, 100);
            Check.eq(roll.share(key, -1), 90);
        }
        Check.eq(roll.settle(0, 0, 5), 0);
        for (int what = 0; what <= 2; what++) {
            Check.eq(roll.owner(0, 0, what), 0);
        }
        Check.eq(roll.owner(0, 0, 5), 450);
        Check.yes(roll.isSound());
    }

    private static void houseWithoutBills() {
        Check.part("a HOUSE without BILLS: ADVANCES are all that is SETTLED");
        Rentroll roll = new Rentroll();
        roll.flat(0, 50);
        roll.lease(0, 0, -1, 2, 300, 0);
        Check.eq(roll.settle(0, 0, 5), 0);
        roll.advance(0, 10);
        Check.eq(roll.settle(0, 0, 5), 1);
        Check.eq(roll.settled(0, 0), -120);
        Check.eq(roll.owner(0, 0, 3), 0);
        Check.eq(roll.owner(0, 0, 4), 0);
        Check.eq(roll.owner(0, 0, 5), 0);
    }

    private static void houseWithoutRows() {
        Check.part("a HOUSE without ROWS, with one, with two: -9");
        Rentroll roll = new Rentroll();
        roll.flat(1, 50);
        roll.lease(0, 0, -1, 2, 300, 0);
        for (int row = 0; row < 3; row++) {
            Check.refused(roll, () -> roll.raise(0, 5));
            Check.eq(roll.compare(0, 7), row + 1);
            Check.refused(roll, () -> roll.raise(0, 5));
            Check.eq(roll.compare(1, 7), row + 1);
        }
        Check.eq(roll.raise(0, 5), 350);
    }

    private static void flatWithoutReadings() {
        Check.part("promise 43: 0 without any");
        Rentroll roll = new Rentroll();
        roll.flat(0, 50);
        roll.flat(0, 50);
        roll.read(1, 5, 77);
        for (int day : new int[] {0, 5, 1824}) {
            Check.eq(roll.reading(0, day), 0);
        }
        roll.read(0, 5, 9);
        Check.eq(roll.reading(0, 0), 9);
        roll.undo();
        Check.eq(roll.reading(0, 5), 0);
    }

    private static void flatWithoutLease() {
        Check.part("promises 33 and 48: NONE without one, and one FREE SPAN");
        Rentroll roll = withLease();
        roll.flat(0, 50);
        for (int day : new int[] {0, 50, 1824}) {
            Check.eq(roll.tenant(1, day), -1);
        }
        Check.eq(roll.free(1), "0-1824");
        Check.eq(roll.tenant(0, 39), -1);
        Check.eq(roll.tenant(0, 101), -1);
    }

    private static void flatWithoutWorks() {
        Check.part("promise 49: without WORKS");
        Rentroll roll = withLease();
        roll.flat(0, 50);
        Check.eq(roll.best(0), "");
        // those of another FLAT are none of its own, and one that does not fit is none
        roll.work(1, 0, 5, 5);
        Check.eq(roll.best(0), "");
        roll.work(0, 40, 40, 1000);
        Check.eq(roll.best(0), "");
        Check.eq(roll.best(1), "0");
    }

    private static void leaseAtFirst() {
        Check.part("a LEASE of which nothing more is told");
        Rentroll roll = withLease();
        // no NOTICE, no TERMINATION, not CURED, one RENT, no DEFECTS, no reminders, BASE of FROM
        int[] due = {40, 100, 100, -1, -1, 0, 1, 0, 0, 1, 0, 0};
        for (int what = 0; what <= 11; what++) {
            Check.eq(roll.ofLease(0, what), due[what]);
        }
        // ADVANCE is 0 at first
        Check.eq(roll.due(0, 2, 1), 0);
        Check.eq(roll.advance(0, 5), 0);
    }

    private static void leaseWithoutClause() {
        Check.part("promise 13: no CLAUSE");
        Rentroll roll = withLease();
        roll.index(1, 100);
        roll.index(2, 150);
        Check.stays(roll, () -> roll.adjust(0, 2), "IllegalStateException");
        // a CLAUSE of 0 and 0 is one; taken back, it is none again
        roll.clause(0, 0, 0);
        Check.eq(roll.adjust(0, 2), 300);
        roll.undo();
        roll.undo();
        Check.stays(roll, () -> roll.adjust(0, 2), "IllegalStateException");
    }

    private static void leaseWithoutDeposit() {
        Check.part("a LEASE without DEPOSIT");
        Rentroll roll = withLease();
        roll.rate(0, 5000);
        Check.eq(roll.depositOf(0, 0, 0), 0);
        Check.eq(roll.depositOf(0, 1824, 0), 0);
        Check.eq(roll.depositOf(0, 1824, 1), 0);
        Check.refused(roll, () -> roll.use(0, 1824, 1));
        Check.eq(roll.giveBack(0, 101), 0);
    }

    private static void leaseWithoutDebts() {
        Check.part("a LEASE without DEBTS: nothing is OWED, due, PRESSING");
        Rentroll roll = new Rentroll();
        roll.flat(0, 50);
        roll.lease(0, 0, 30, 1, 300, 0);
        roll.freeMonth(0, 0);
        roll.rate(0, 5000);
        for (int what = 0; what <= 4; what++) {
            Check.eq(roll.owed(0, 0, what), 0);
            Check.eq(roll.owed(0, 30, what), 0);
            Check.eq(roll.owed(0, 1824, what), 0);
        }
        Check.eq(roll.interest(0, 0, 1824, true), "0");
        Check.eq(roll.interest(0, 0, 1824, false), "0");
        Check.eq(roll.pressing(0, 1824), -1);
        Check.refused(roll, () -> roll.remind(0, 20));
        Check.refused(roll, () -> roll.terminate(0, 20));
        Check.refused(roll, () -> roll.refund(0, 20, 1));
        // all that is paid is CREDIT
        roll.pay(0, 20, 7, 0);
        Check.eq(roll.owed(0, 20, 1), 7);
    }

    private static void rateWithoutAnyTold() {
        Check.part("promise 19: 0 at first");
        Rentroll roll = withLease();
        Check.eq(roll.interest(0, 0, 1824, true), "0");
        Check.eq(roll.rate(500, 100), 0);
        Check.eq(roll.rate(499, 100), 0);
        Check.eq(roll.rate(0, 100), 0);
    }

    private static void noWeightsOfHeads() {
        Check.part("KEY 1 with no weights at all: the OWNER");
        Rentroll roll = new Rentroll();
        roll.flat(0, 50);
        roll.flat(0, 70);
        roll.lease(0, 40, 50, 2, 300, 0);
        roll.bill(0, 1, 0, 39, 77, 100);
        Check.eq(roll.exactShare(0, -1), "77.000000");
        Check.eq(roll.exactShare(0, 0), "0.000000");
        Check.eq(roll.share(0, -1), 77);
        roll.bill(0, 1, 51, 1824, 77, 100);
        Check.eq(roll.share(1, -1), 77);
        // one day with weights
        roll.bill(0, 1, 40, 40, 77, 100);
        Check.eq(roll.share(2, 0), 77);
        Check.eq(roll.share(2, -1), 0);
    }

    private static void noWeightsOnSomeDays() {
        Check.part("KEY 1 with no weights on some days: those are the OWNER's");
        Rentroll roll = new Rentroll();
        roll.flat(0, 50);
        roll.lease(0, 40, 49, 2, 300, 0);
        roll.bill(0, 1, 39, 50, 12, 100);
        Check.eq(roll.exactShare(0, 0), "10.000000");
        Check.eq(roll.exactShare(0, -1), "2.000000");
    }

    private static void noWeightsOfMeters() {
        Check.part("KEY 3: without weights the OWNER has all");
        Rentroll roll = new Rentroll();
        roll.flat(0, 50);
        roll.lease(0, 0, -1, 2, 300, 0);
        roll.bill(0, 3, 0, 9, 77, 100);
        Check.eq(roll.share(0, -1), 77);
        // readings outside of the span give no weights, and such that are alike neither
        roll.read(0, 10, 5);
        roll.read(0, 20, 9);
        Check.eq(roll.exactShare(0, -1), "77.000000");
        roll.read(0, 0, 5);
        Check.eq(roll.exactShare(0, -1), "77.000000");
        Check.eq(roll.exactShare(0, 0), "0.000000");
        // one unit is enough
        roll.read(0, 9, 5);
        roll.read(0, 10, 6);
        Check.eq(roll.exactShare(0, 0), "77.000000");
        Check.eq(roll.exactShare(0, -1), "0.000000");
    }

    private static void noWeightsOfMixed() {
        Check.part("KEY 4 without weights of meters: that half is the OWNER's");
        Rentroll roll = new Rentroll();
        roll.flat(0, 50);
        roll.lease(0, 0, -1, 2, 300, 0);
        roll.bill(0, 4, 0, 9, 77, 100);
        Check.eq(roll.exactShare(0, -1), "38.000000");
        Check.eq(roll.exactShare(0, 0), "39.000000");
    }

    private static void nothingLaid() {
        Check.part("LAID 0, or cut to 0: nothing for the tenants");
        Rentroll roll = new Rentroll();
        roll.flat(0, 50);
        roll.lease(0, 0, -1, 2, 300, 0);
        roll.read(0, 0, 0);
        roll.read(0, 10, 10);
        for (int key = 0; key <= 4; key++) {
            roll.bill(0, key, 0, 9, 100000, 0);
            Check.eq(roll.exactShare(2 * key, 0), "0.000000");
            Check.eq(roll.exactShare(2 * key, -1), "0.000000");
            Check.eq(roll.share(2 * key, 0), 0);
            Check.eq(roll.share(2 * key, -1), 100000);
            roll.bill(0, key, 0, 9, 1, 99);
            Check.eq(roll.share(2 * key + 1, 0), 0);
            Check.eq(roll.share(2 * key + 1, -1), 1);
        }
        Check.yes(roll.isSound());
    }

    private static void monthWithoutDays() {
        Check.part("promise 36: a MONTH in which the LEASE has no days");
        Rentroll roll = withLease();
        roll.advance(0, 31);
        for (int month : new int[] {0, 4, 59}) {
            Check.eq(roll.due(0, month, 0), 0);
            Check.eq(roll.due(0, month, 1), 0);
            Check.eq(roll.open(0, month, 1824), 0);
        }
    }
}

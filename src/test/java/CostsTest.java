/** Promises 23 to 25, 43 to 46 and 50: meters, bills, settlements, the owner's year. */
public final class CostsTest {
    public static void main(String[] args) {
        read();
        bill();
        settle();
        settleAgain();
        settleAllAtOnce();
        reading();
        shareByArea();
        shareByHeads();
        shareByFlats();
        shareByMeter();
        shareMixed();
        shareWithout();
        leftCoins();
        runs();
        exactShare();
        settled();
        owner();
        Check.end("CostsTest");
    }

    private static void read() {
        Check.part("promise 23");
        Rentroll roll = new Rentroll();
        roll.flat(0, 50);
        roll.flat(0, 50);
        Check.eq(roll.read(0, 100, 500), 1);
        Check.eq(roll.read(0, 200, 499), -9);
        Check.eq(roll.read(0, 99, 501), -9);
        Check.eq(roll.read(0, 99, 500), 2);
        Check.eq(roll.read(0, 200, 500), 3);
        Check.eq(roll.read(0, 1824, 100000), 4);
        Check.eq(roll.read(0, 0, 0), 5);
        Check.eq(roll.read(0, 200, 501), 5);
        Check.eq(roll.read(0, 100, 502), -9);
        Check.eq(roll.read(0, 100, 501), 5);
        Check.eq(roll.read(0, 99, 502), -9);
        Check.eq(roll.read(1, 50, 7), 1);
        Check.eq(roll.reading(0, 100), 501);
        Check.noSuch(() -> roll.read(2, -1, -1));
        Check.noSuch(() -> roll.read(-1, 5, 5));
        Check.notLet(() -> roll.read(0, -1, 5));
        Check.notLet(() -> roll.read(0, 1825, 5));
        Check.notLet(() -> roll.read(0, 5, -1));
        Check.notLet(() -> roll.read(0, 5, 100001));
        // what is gone binds no more
        Rentroll other = new Rentroll();
        other.flat(0, 5);
        other.read(0, 10, 900);
        other.read(0, 10, 5);
        Check.eq(other.read(0, 20, 6), 2);
    }

    private static void bill() {
        Check.part("promise 24");
        Rentroll roll = new Rentroll();
        int[][] wrong = {{-1, 0, 0, 9, 5, 5}, {3, 0, 0, 9, 5, 5}, {0, -1, 0, 9, 5, 5}, {0, 5, 0, 9, 5, 5},
            {0, 0, -1, 9, 5, 5}, {0, 0, 1825, 1825, 5, 5}, {0, 0, 5, 4, 5, 5}, {0, 0, 5, 1825, 5, 5},
            {0, 0, 0, 9, 0, 5}, {0, 0, 0, 9, 100001, 5}, {0, 0, 0, 9, 5, -1}, {0, 0, 0, 9, 5, 101}};
        for (int[] a : wrong) {
            Check.notLet(() -> roll.bill(a[0], a[1], a[2], a[3], a[4], a[5]));
        }
        for (int bill = 0; bill < 12; bill++) {
            Check.eq(roll.bill(bill % 3, bill % 5, bill, bill == 11 ? 1824 : bill, 100000, bill == 5 ? 0 : 100), bill);
        }
        Check.notNow(() -> roll.bill(0, 0, 0, 9, 5, 5));
        Check.notLet(() -> roll.bill(0, 5, 0, 9, 5, 5));
        Check.eq(roll.count(2), 12);
        Check.eq(roll.share(11, -1), 100000);
    }

    /** Two flats of 50 and 150; the first one let all the time, the second one till DAY 181. */
    private static Rentroll house() {
        Rentroll roll = new Rentroll();
        roll.flat(0, 50);
        roll.flat(0, 150);
        roll.lease(0, 0, -1, 1, 300, 0);
        roll.lease(1, 0, 181, 3, 300, 0);
        return roll;
    }

    private static void settle() {
        Check.part("promise 25");
        Rentroll roll = house();
        roll.flat(1, 100);
        roll.lease(2, 0, -1, 1, 300, 0);
        roll.advance(0, 10);
        roll.advance(2, 10);
        roll.bill(0, 0, 0, 364, 400, 100);
        // 100 less 12 * 10 is -20: a PAYMENT; the second one: 300 * 182 / 365 = 149.59, less 0
        Check.eq(roll.settle(0, 0, 400), 2);
        Check.eq(roll.settled(0, 0), -20);
        Check.eq(roll.settled(1, 0), 150);
        Check.eq(roll.settled(2, 0), 0);
        Check.eq(roll.owed(1, 400, 0) - roll.owed(1, 399, 0), 150);
        Check.eq(roll.owed(0, 399, 0) - roll.owed(0, 400, 0), 20);
        Check.eq(roll.settle(1, 0, 1824), 1);
        Check.eq(roll.settled(2, 0), -120);
        Check.eq(roll.settle(2, 0, 0), 0);
        Check.eq(roll.count(7), 12);
        Check.notLet(() -> roll.settle(-1, 0, 0));
        Check.notLet(() -> roll.settle(3, 0, 0));
        Check.notLet(() -> roll.settle(0, -1, 0));
        Check.notLet(() -> roll.settle(0, 5, 0));
        Check.notLet(() -> roll.settle(0, 0, -1));
        Check.notLet(() -> roll.settle(0, 0, 1825));
    }

    private static void settleAgain() {
        Rentroll roll = house();
        roll.advance(0, 10);
        roll.bill(0, 0, 0, 364, 400, 100);
        roll.settle(0, 0, 400);
        Check.eq(roll.settle(0, 0, 401), 0);
        // only BILLS whose last DAY is in the YEAR
        roll.bill(0, 0, 364, 365, 400, 100);
        Check.eq(roll.settle(0, 0, 402), 0);
        Check.eq(roll.settle(0, 1, 402), 1);
        Check.eq(roll.settled(0, 1), 100 - 120);
        Check.eq(roll.settled(0, 0), -20);
        // what changed since is told by a SETTLEMENT more
        roll.advance(0, 9);
        Check.eq(roll.settle(0, 0, 403), 1);
        Check.eq(roll.settled(0, 0), -8);
        Check.eq(roll.ofLease(0, 11), 3);
        Check.eq(roll.ofLease(1, 11), 1);
        Check.eq(roll.undo(), 12);
        Check.eq(roll.settled(0, 0), -20);
        Check.eq(roll.ofLease(0, 11), 2);
    }

    private static void settleAllAtOnce() {
        // the first SETTLEMENT CURES a TERMINATION; the BILL is shared as it was ahead of the call
        Rentroll roll = new Rentroll();
        roll.flat(0, 50);
        roll.flat(0, 50);
        roll.lease(0, 0, -1, 1, 100, 0);
        roll.lease(1, 0, 364, 1, 100, 0);
        roll.terminate(0, 33);
        Check.eq(roll.ofLease(0, 2), 62);
        roll.bill(0, 1, 0, 364, 1000, 100);
        int first = roll.share(0, 0);
        int second = roll.share(0, 1);
        roll.advance(0, 5000);
        Check.eq(roll.ofLease(0, 2), 62);
        roll.pay(0, 33, 6000, -1);
        Check.eq(roll.ofLease(0, 5), 0);
        Check.eq(roll.settle(0, 0, 62), 2);
        Check.eq(roll.settled(0, 0), first - 5000 - 5000 - 645);
        Check.eq(roll.settled(1, 0), second);
        Check.eq(roll.ofLease(0, 5), 1);
        Check.eq(roll.ofLease(0, 2), 1824);
    }

    private static void reading() {
        Check.part("promise 43");
        Rentroll roll = new Rentroll();
        roll.flat(0, 50);
        Check.eq(roll.reading(0, 0), 0);
        Check.eq(roll.reading(0, 1824), 0);
        roll.read(0, 100, 1000);
        Check.eq(roll.reading(0, 0), 1000);
        Check.eq(roll.reading(0, 1824), 1000);
        roll.read(0, 103, 1002);
        Check.eq(roll.reading(0, 100), 1000);
        // 2 in 3 days: 0.67 and 1.33, cut
        Check.eq(roll.reading(0, 101), 1000);
        Check.eq(roll.reading(0, 102), 1001);
        Check.eq(roll.reading(0, 103), 1002);
        Check.eq(roll.reading(0, 104), 1002);
        roll.read(0, 1824, 100000);
        Check.eq(roll.reading(0, 1823), 1002 + (int) (98998L * 1720 / 1721));
        Check.noSuch(() -> roll.reading(1, -1));
        Check.notLet(() -> roll.reading(0, -1));
        Check.notLet(() -> roll.reading(0, 1825));
    }

    private static void shareByArea() {
        Check.part("promise 44, area");
        Rentroll roll = house();
        roll.bill(0, 0, 0, 364, 400, 50);
        // laid are 200: 50 for the first one, 150 for the second flat, 182 of 365 days of it
        Check.eq(roll.exactShare(0, 0), "49.999999");
        Check.eq(roll.exactShare(0, 1), "74.794520");
        Check.eq(roll.exactShare(0, -1), "75.205479");
        Check.eq(roll.share(0, 0), 50);
        Check.eq(roll.share(0, 1), 75);
        Check.eq(roll.share(0, -1), 75 + 200);
        Check.noSuch(() -> roll.share(1, 0));
        Check.noSuch(() -> roll.share(-1, 0));
        Check.noSuch(() -> roll.share(0, 2));
        Check.noSuch(() -> roll.share(0, -2));
        // an AREA that changes parts the RUN
        roll.shift(1, 0, 50, 300);
        roll.bill(0, 0, 0, 364, 200, 100);
        Check.eq(roll.exactShare(1, 0), sixDigits(200L * 182 * 50, 365 * 200, 200L * 118 * 50, 365 * 200,
            200L * 65 * 100, 365 * 200));
        Check.eq(roll.exactShare(1, 1), sixDigits(200L * 182 * 150, 365 * 200));
    }

    /** Parts in pairs, above and below, each cut behind six digits, added. */
    private static String sixDigits(long... parts) {
        long sum = 0;
        for (int at = 0; at < parts.length; at += 2) {
            sum += parts[at] * 1000000 / parts[at + 1];
        }
        return String.format("%d.%06d", sum / 1000000, sum % 1000000);
    }

    private static void shareByHeads() {
        Check.part("promise 44, heads");
        Rentroll roll = house();
        roll.bill(0, 1, 0, 364, 365, 100);
        // a coin a day: 1 of 4, then the second flat has no weight
        Check.eq(roll.exactShare(0, 0), sixDigits(365L * 182, 365 * 4, 365L * 183, 365));
        Check.eq(roll.exactShare(0, 1), "136.500000");
        Check.eq(roll.exactShare(0, -1), "0.000000");
        Check.eq(roll.share(0, 0), 229);
        Check.eq(roll.share(0, 1), 136);
        Check.eq(roll.share(0, -1), 0);
        roll.heads(0, 100, 3);
        Check.eq(roll.exactShare(0, 0), sixDigits(365L * 100, 365 * 4, 365L * 82 * 3, 365 * 6, 365L * 183, 365));
        // days without any weight: the OWNER's
        Rentroll other = new Rentroll();
        other.flat(0, 5);
        other.lease(0, 10, 19, 6, 300, 0);
        other.bill(0, 1, 0, 39, 400, 100);
        Check.eq(other.exactShare(0, 0), "100.000000");
        Check.eq(other.exactShare(0, -1), "300.000000");
    }

    private static void shareByFlats() {
        Check.part("promise 44, flats");
        Rentroll roll = house();
        roll.flat(1, 500);
        roll.lease(2, 0, -1, 6, 300, 0);
        roll.bill(0, 2, 0, 364, 730, 100);
        Check.eq(roll.exactShare(0, 0), "365.000000");
        Check.eq(roll.exactShare(0, 1), "182.000000");
        Check.eq(roll.exactShare(0, -1), "183.000000");
        Check.eq(roll.exactShare(0, 2), "0.000000");
        Check.eq(roll.share(0, 2), 0);
        // a TERMINATION that is not CURED makes the flat empty
        roll.terminate(0, 33);
        Check.eq(roll.exactShare(0, 0), "63.000000");
        Check.eq(roll.share(0, -1), 730 - 63 - 182);
    }

    private static void shareByMeter() {
        Check.part("promise 44, meter");
        Rentroll roll = house();
        roll.read(0, 0, 0);
        roll.read(0, 100, 100);
        roll.read(1, 0, 1000);
        roll.read(1, 200, 1400);
        roll.bill(0, 3, 0, 364, 100, 100);
        // weights: 100; till DAY 181 READ on 182 less READ on 0: 364; the OWNER 36
        Check.eq(roll.exactShare(0, 0), "20.000000");
        Check.eq(roll.exactShare(0, 1), "72.800000");
        Check.eq(roll.exactShare(0, -1), "7.200000");
        Check.eq(roll.share(0, 1), 73);
        Check.eq(roll.share(0, -1), 7);
        roll.bill(0, 3, 50, 59, 90, 100);
        // 10 and 20
        Check.eq(roll.share(1, 0), 30);
        Check.eq(roll.share(1, 1), 60);
        // of DAY 1824 nothing; a BILL of DAY 1823 has what is between both
        roll.read(0, 1823, 100);
        roll.read(0, 1824, 105);
        roll.bill(0, 3, 1824, 1824, 90, 100);
        Check.eq(roll.share(2, 0), 0);
        Check.eq(roll.share(2, -1), 90);
        roll.bill(0, 3, 1823, 1823, 90, 100);
        Check.eq(roll.share(3, 0), 90);
        roll.bill(0, 3, 1823, 1824, 90, 100);
        Check.eq(roll.share(4, 0), 90);
        // the OWNER's weight is the sum of his: 1/3 and 1/3 are cut once
        Rentroll empty = new Rentroll();
        for (int flat = 0; flat < 3; flat++) {
            empty.flat(0, 5);
            empty.read(flat, 0, 0);
            empty.read(flat, 10, 1);
        }
        empty.lease(2, 0, -1, 1, 300, 0);
        empty.bill(0, 3, 0, 20, 1, 100);
        Check.eq(empty.exactShare(0, -1), "0.666666");
        Check.eq(empty.exactShare(0, 0), "0.333333");
        Check.eq(empty.share(0, -1), 1);
    }

    private static void shareMixed() {
        Check.part("promise 44, mixed");
        Rentroll roll = house();
        roll.read(0, 0, 0);
        roll.read(0, 100, 30);
        roll.read(1, 0, 0);
        roll.read(1, 100, 70);
        roll.bill(0, 4, 0, 181, 202, 50);
        // 101 laid: 50 by meter (15, 35), 51 by area (12.75, 38.25)
        Check.eq(roll.exactShare(0, 0), "27.750000");
        Check.eq(roll.exactShare(0, 1), "73.250000");
        Check.eq(roll.share(0, 0), 28);
        Check.eq(roll.share(0, 1), 73);
        Check.eq(roll.share(0, -1), 101);
        // without weights of meters their half is the OWNER's
        roll.bill(0, 4, 150, 181, 100, 100);
        Check.eq(roll.exactShare(1, -1), "50.000000");
        Check.eq(roll.share(1, 0), 13);
        Check.eq(roll.share(1, 1), 37);
        // one coin has no half: all of it by area
        roll.bill(0, 4, 0, 9, 1, 100);
        Check.eq(roll.exactShare(2, 0), "0.250000");
        Check.eq(roll.share(2, 1), 1);
    }

    private static void shareWithout() {
        Check.part("promise 44, without");
        Rentroll roll = new Rentroll();
        for (int key = 0; key < 5; key++) {
            roll.bill(0, key, 0, 9, 101, 50);
            Check.eq(roll.exactShare(key, -1), "50.000000");
            Check.eq(roll.share(key, -1), 101);
        }
        roll.flat(0, 5);
        roll.lease(0, 0, -1, 1, 300, 0);
        roll.bill(0, 0, 0, 9, 99, 0);
        Check.eq(roll.exactShare(5, -1), "0.000000");
        Check.eq(roll.share(5, -1), 99);
        Check.eq(roll.share(5, 0), 0);
        roll.bill(0, 0, 0, 9, 1, 99);
        Check.eq(roll.share(6, -1), 1);
    }

    private static void leftCoins() {
        Check.part("promise 44, what is left");
        Rentroll roll = new Rentroll();
        for (int flat = 0; flat < 4; flat++) {
            roll.flat(0, 10);
        }
        roll.lease(2, 0, -1, 1, 300, 0);
        roll.lease(1, 0, -1, 1, 300, 0);
        roll.lease(0, 0, -1, 1, 300, 0);
        // 2.5 each: two coins are left, for LEASES 0 and 1
        roll.bill(0, 0, 0, 9, 10, 100);
        Check.eq(roll.share(0, 0), 3);
        Check.eq(roll.share(0, 1), 3);
        Check.eq(roll.share(0, 2), 2);
        Check.eq(roll.share(0, -1), 2);
        // three: the OWNER is last
        roll.bill(0, 0, 0, 9, 11, 100);
        Check.eq(roll.share(1, 2), 3);
        Check.eq(roll.share(1, -1), 2);
        // whose EXACT SHARE is 0 gets none: 33.333333 each, one coin is left
        roll.bill(0, 1, 0, 9, 100, 100);
        Check.eq(roll.share(2, 0), 34);
        Check.eq(roll.share(2, 1), 33);
        Check.eq(roll.share(2, 2), 33);
        Check.eq(roll.share(2, -1), 0);
        // the greatest part behind the point, not the greatest share: 1.25, 3.75
        Rentroll other = house();
        other.bill(0, 0, 0, 9, 5, 100);
        Check.eq(other.share(0, 0), 1);
        Check.eq(other.share(0, 1), 4);
    }

    private static void runs() {
        Check.part("promise 45, runs");
        // three flats of weight 1 in 7 days, a coin: the part of one weight is cut, RUN by RUN
        Rentroll roll = new Rentroll();
        for (int flat = 0; flat < 3; flat++) {
            roll.flat(0, 10);
        }
        roll.lease(0, 0, -1, 1, 300, 0);
        roll.bill(0, 2, 0, 6, 1, 100);
        Check.eq(roll.exactShare(0, 0), sixDigits(7, 21));
        // the OWNER has two weights, each cut on its own
        Check.eq(roll.exactShare(0, -1), sixDigits(7, 21, 7, 21));
        // another BEARER parts the RUN, though the weights stay
        roll.lease(1, 3, 3, 1, 300, 0);
        Check.eq(roll.exactShare(0, 0), sixDigits(3, 21, 1, 21, 3, 21));
        Check.eq(roll.exactShare(0, 1), sixDigits(1, 21));
        // a change that changes nothing does not part it
        Rentroll same = new Rentroll();
        same.flat(0, 10);
        same.flat(0, 20);
        same.lease(0, 0, -1, 2, 300, 0);
        same.lease(1, 0, -1, 1, 300, 0);
        same.heads(0, 3, 2);
        same.bill(0, 1, 0, 6, 1, 100);
        Check.eq(same.exactShare(0, 0), sixDigits(14, 21));
        same.heads(0, 3, 1);
        Check.eq(same.exactShare(0, 0), sixDigits(6, 21, 4, 14));
        // an AREA that changes does not part it for another KEY, nor do HEADS for this one
        same.shift(1, 0, 5, 2);
        Check.eq(same.exactShare(0, 0), sixDigits(6, 21, 4, 14));
        same.bill(0, 2, 0, 6, 1, 100);
        Check.eq(same.exactShare(1, 0), sixDigits(7, 14));
        // a LEASE that follows another one of the same flat has a RUN of its own
        Rentroll next = new Rentroll();
        next.flat(0, 10);
        next.flat(0, 20);
        next.lease(0, 0, 2, 2, 300, 0);
        next.lease(0, 3, -1, 2, 300, 0);
        next.bill(0, 0, 0, 6, 1, 100);
        Check.eq(next.exactShare(0, 0), sixDigits(30, 210));
        Check.eq(next.exactShare(0, -1), sixDigits(60, 210, 80, 210));
    }

    private static void exactShare() {
        Check.part("promise 45");
        Rentroll roll = new Rentroll();
        roll.flat(0, 1);
        roll.flat(0, 7);
        roll.lease(0, 0, -1, 1, 300, 0);
        roll.bill(0, 0, 0, 0, 100, 100);
        Check.eq(roll.exactShare(0, 0), "12.500000");
        roll.bill(0, 0, 0, 1824, 100000, 100);
        Check.eq(roll.exactShare(1, 0), "12500.000000");
        Check.eq(roll.exactShare(1, -1), "87500.000000");
        roll.bill(0, 3, 0, 1824, 100000, 99);
        Check.eq(roll.exactShare(2, -1), "99000.000000");
        Check.eq(roll.exactShare(2, 0), "0.000000");
        Check.noSuch(() -> roll.exactShare(3, 0));
        Check.noSuch(() -> roll.exactShare(-1, 0));
        Check.noSuch(() -> roll.exactShare(0, 1));
        Check.noSuch(() -> roll.exactShare(0, -2));
    }

    private static void settled() {
        Check.part("promise 46");
        Rentroll roll = house();
        for (int year = 0; year < 5; year++) {
            Check.eq(roll.settled(0, year), 0);
        }
        roll.advance(0, 1);
        roll.settle(0, 4, 0);
        roll.advance(0, 2);
        roll.settle(0, 4, 5);
        roll.settle(0, 3, 5);
        Check.eq(roll.settled(0, 4), -24);
        Check.eq(roll.settled(0, 3), -24);
        Check.eq(roll.settled(0, 0), 0);
        Check.eq(roll.ofLease(0, 11), 3);
        Check.noSuch(() -> roll.settled(2, 5));
        Check.notLet(() -> roll.settled(0, -1));
        Check.notLet(() -> roll.settled(0, 5));
    }

    private static void owner() {
        Check.part("promise 50");
        Rentroll roll = house();
        roll.flat(1, 50);
        roll.lease(2, 0, -1, 1, 999, 0);
        roll.advance(0, 10);
        roll.advance(2, 77);
        // 12 * 300, and 6 * 300 and 1 of 31 days
        Check.eq(roll.owner(0, 0, 0), 3600 + 1800 + 10);
        Check.eq(roll.owner(0, 1, 0), 3600);
        Check.eq(roll.owner(0, 4, 1), 120);
        Check.eq(roll.owner(1, 4, 1), 924);
        Check.eq(roll.owner(2, 4, 1), 0);
        roll.pay(0, 0, 100, -1);
        roll.pay(0, 364, 20, -1);
        roll.pay(1, 365, 3, 0);
        roll.pay(2, 5, 50000, -1);
        roll.deposit(0, 5, 10);
        roll.use(0, 6, 10);
        Check.eq(roll.owner(0, 0, 2), 120);
        Check.eq(roll.owner(0, 1, 2), 3);
        Check.eq(roll.owner(1, 0, 2), 50000);
        roll.bill(0, 0, 0, 364, 400, 50);
        roll.bill(0, 2, 360, 364, 10, 100);
        roll.bill(0, 2, 364, 365, 5, 100);
        roll.bill(1, 2, 0, 364, 9, 100);
        Check.eq(roll.owner(0, 0, 3), 410);
        Check.eq(roll.owner(0, 1, 3), 5);
        Check.eq(roll.owner(0, 0, 4), 125 + 5);
        Check.eq(roll.owner(0, 0, 5), 275 + 5);
        Check.eq(roll.owner(1, 0, 4), 9);
        Check.eq(roll.owner(1, 0, 5), 0);
        for (int[] a : new int[][] {{-1, 0, 0}, {3, 0, 0}, {0, -1, 0}, {0, 5, 0}, {0, 0, -1}, {0, 0, 6}}) {
            Check.notLet(() -> roll.owner(a[0], a[1], a[2]));
        }
    }
}

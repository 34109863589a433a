/** Promises 26 to 31, 41, 42 and 47 to 49: deposits, works, undoing, texts, empty flats. */
public final class DepositsTest {
    public static void main(String[] args) {
        deposit();
        use();
        giveBack();
        fruitsBehindGivingBack();
        work();
        undo();
        undoEach();
        knock();
        text();
        spoiled();
        spoiledNumbers();
        depositOf();
        free();
        best();
        bestOfSeveral();
        Check.end("DepositsTest");
    }

    /** A lease from DAY 10 to DAY 99. */
    private static Rentroll withLease() {
        Rentroll roll = new Rentroll();
        roll.flat(0, 50);
        roll.lease(0, 10, 99, 2, 300, 0);
        return roll;
    }

    private static void deposit() {
        Check.part("promise 26");
        Rentroll roll = withLease();
        Check.eq(roll.deposit(0, 0, 600), 600);
        Check.eq(roll.deposit(0, 50, 1), 601);
        Check.eq(roll.deposit(0, 50, 100000), 100601);
        Check.eq(roll.deposit(0, 49, 5), -9);
        Check.eq(roll.deposit(0, 1824, 5), 100606);
        Check.eq(roll.depositOf(0, 49, 0), 600);
        Check.eq(roll.count(7), 6);
        Check.noSuch(() -> roll.deposit(1, -1, 0));
        Check.notLet(() -> roll.deposit(0, -1, 5));
        Check.notLet(() -> roll.deposit(0, 1825, 5));
        Check.notLet(() -> roll.deposit(0, 5, 0));
        Check.notLet(() -> roll.deposit(0, 5, 100001));
    }

    private static void use() {
        Check.part("promise 27");
        Rentroll roll = withLease();
        Check.eq(roll.use(0, 20, 1), -9);
        roll.deposit(0, 20, 500);
        Check.eq(roll.use(0, 19, 1), -9);
        Check.eq(roll.use(0, 20, 501), -9);
        int before = roll.owed(0, 20, 0);
        Check.eq(roll.use(0, 20, 50), 450);
        // it is a PAYMENT, but none by pay()
        Check.eq(roll.owed(0, 20, 0), before - 50);
        Check.eq(roll.count(3), 0);
        Check.eq(roll.use(0, 1824, 450), 0);
        Check.eq(roll.deposit(0, 1823, 5), -9);
        Check.eq(roll.depositOf(0, 1823, 0), 450);
        Check.noSuch(() -> roll.use(1, 9, 0));
        Check.notLet(() -> roll.use(0, 9, 5));
        Check.notLet(() -> roll.use(0, 1825, 5));
        Check.notLet(() -> roll.use(0, 50, 0));
        Check.notLet(() -> roll.use(0, 50, 100001));
        // the WORD is NONE: it comes behind those with a WORD
        Rentroll other = new Rentroll();
        other.flat(0, 50);
        other.lease(0, 0, -1, 1, 300, 0);
        other.deposit(0, 0, 300);
        other.use(0, 40, 300);
        other.pay(0, 40, 300, 0);
        Check.eq(other.open(0, 0, 40), 0);
        Check.eq(other.open(0, 1, 40), 0);
    }

    private static void giveBack() {
        Check.part("promise 28");
        Rentroll roll = withLease();
        roll.deposit(0, 10, 3650);
        roll.rate(0, 1000);
        Check.eq(roll.giveBack(0, 99), -9);
        // 3650 * 1000 units a day are one coin: DAYS 11 to 100
        Check.eq(roll.giveBack(0, 100), 3650 + 90);
        Check.eq(roll.depositOf(0, 100, 0), 0);
        Check.eq(roll.depositOf(0, 99, 0), 3650);
        Check.eq(roll.giveBack(0, 100), 0);
        Check.eq(roll.giveBack(0, 99), -9);
        Check.eq(roll.deposit(0, 99, 5), -9);
        Check.eq(roll.undo(), 5);
        Check.eq(roll.undo(), 4);
        Check.eq(roll.depositOf(0, 100, 1), 90);
        roll.deposit(0, 200, 1);
        Check.eq(roll.giveBack(0, 199), -9);
        Check.eq(roll.giveBack(0, 200), 3651 + 190);
        Check.noSuch(() -> roll.giveBack(1, -1));
        Check.notLet(() -> roll.giveBack(0, -1));
        Check.notLet(() -> roll.giveBack(0, 1825));
        // without a DEPOSIT nothing is given back, but it is a move
        Rentroll none = withLease();
        Check.eq(none.giveBack(0, 150), 0);
        Check.eq(none.deposit(0, 149, 5), -9);
        // open: never behind LAST, but a TERMINATION ends it
        Rentroll open = new Rentroll();
        open.flat(0, 50);
        open.lease(0, 0, -1, 1, 300, 0);
        Check.eq(open.giveBack(0, 1824), -9);
        open.terminate(0, 33);
        Check.eq(open.giveBack(0, 62), -9);
        Check.eq(open.giveBack(0, 63), 0);
    }

    private static void fruitsBehindGivingBack() {
        Rentroll roll = withLease();
        roll.rate(0, 1000);
        roll.deposit(0, 10, 3650);
        roll.giveBack(0, 110);
        roll.deposit(0, 110, 36500);
        // the days behind that on which it was given back last
        Check.eq(roll.depositOf(0, 110, 1), 0);
        Check.eq(roll.depositOf(0, 112, 1), 20);
        roll.deposit(0, 120, 3650);
        Check.eq(roll.depositOf(0, 121, 1), 111);
        Check.eq(roll.giveBack(0, 121), 36500 + 3650 + 111);
        roll.undo();
        roll.rate(121, 0);
        Check.eq(roll.giveBack(0, 130), 36500 + 3650 + 100);
    }

    private static void work() {
        Check.part("promise 29");
        Rentroll roll = new Rentroll();
        roll.flat(0, 50);
        roll.flat(0, 50);
        Check.eq(roll.work(0, 0, 1824, 1000), 0);
        Check.eq(roll.work(1, 1824, 1824, 1), 1);
        Check.noSuch(() -> roll.work(2, -1, 0, 0));
        for (int[] a : new int[][] {{-1, 5, 1}, {1825, 1825, 1}, {5, 4, 1}, {5, 1825, 1}, {5, 6, 0}, {5, 6, 1001}}) {
            Check.notLet(() -> roll.work(0, a[0], a[1], a[2]));
        }
        for (int work = 2; work < 10; work++) {
            Check.eq(roll.work(0, 5, 5, 5), work);
        }
        Check.notNow(() -> roll.work(0, 5, 5, 5));
        Check.notLet(() -> roll.work(0, 5, 4, 5));
        Check.noSuch(() -> roll.work(-1, 5, 5, 5));
        Check.eq(roll.count(4), 10);
    }

    private static void undo() {
        Check.part("promise 30");
        Rentroll roll = new Rentroll();
        Check.notNow(roll::undo);
        roll.flat(0, 50);
        roll.lease(0, 0, -1, 1, 300, 0);
        Check.eq(roll.count(7), 2);
        // neither what throws nor -9 nor what is asked counts
        Check.notLet(() -> roll.flat(9, 9));
        Check.eq(roll.lease(0, 5, 6, 1, 1, 0), -9);
        roll.area(0, 0);
        roll.knock();
        Check.eq(roll.count(7), 2);
        // what changes nothing counts, and a SETTLEMENT of none
        roll.advance(0, 0);
        Check.eq(roll.settle(0, 0, 0), 0);
        Check.eq(roll.count(7), 4);
        Check.eq(roll.undo(), 3);
        Check.eq(roll.undo(), 2);
        Check.eq(roll.undo(), 1);
        Check.noSuch(() -> roll.ofLease(0, 0));
        Check.eq(roll.undo(), 0);
        Check.notNow(roll::undo);
        Check.noSuch(() -> roll.area(0, 0));
        Check.eq(roll.count(8), 1);
        // an undone call can't be undone again, new ones take its place
        Check.eq(roll.flat(1, 7), 0);
        Check.eq(roll.area(0, 5), 7);
        Check.eq(roll.undo(), 0);
    }

    /** Every kind of call, then all taken back, one by one: each time the checksum is as it was. */
    private static void undoEach() {
        Rentroll roll = new Rentroll();
        long[] sums = new long[64];
        int calls = 0;
        for (int call = 0; call < 40; call++) {
            long before = roll.digest();
            int kept = roll.count(7);
            makeCall(roll, call);
            Check.eq(roll.count(7), kept + 1);
            sums[calls] = before;
            calls++;
        }
        while (calls > 0) {
            calls--;
            Check.eq(roll.undo(), calls);
            Check.eq(roll.digest(), sums[calls]);
        }
    }

    private static void makeCall(Rentroll roll, int call) {
        switch (call) {
            case 0: roll.flat(0, 60); break;
            case 1: roll.flat(0, 40); break;
            case 2: roll.lease(0, 0, -1, 2, 300, 0); break;
            case 3: roll.lease(1, 31, 500, 3, 250, 1); break;
            case 4: roll.shift(0, 1, 10, 200); break;
            case 5: roll.advance(0, 30); break;
            case 6: roll.heads(0, 40, 3); break;
            case 7: roll.step(0, 40, 310); break;
            case 8: roll.step(0, 40, 315); break;
            case 9: roll.freeMonth(0, 7); break;
            case 10: roll.freeMonth(0, 7); break;
            case 11: roll.option(1, 20); break;
            case 12: roll.index(0, 100); break;
            case 13: roll.index(6, 107); break;
            case 14: roll.index(6, 108); break;
            case 15: roll.clause(0, 5, 30); break;
            case 16: roll.adjust(0, 6); break;
            case 17: case 18: case 19: roll.compare(0, 7); break;
            case 20: roll.raise(1, 9); break;
            case 21: roll.defect(0, 10, 60, 25); break;
            case 22: roll.rate(0, 500); break;
            case 23: roll.rate(0, 700); break;
            case 24: roll.remind(0, 10); break;
            case 25: roll.terminate(0, 70); break;
            case 26: roll.pay(0, 40, 700, 1); break;
            case 27: roll.pay(0, 40, 900, -1); break;
            case 28: roll.refund(0, 40, 100); break;
            case 29: roll.terminate(1, 400); break;
            case 30: roll.out(1); break;
            case 31: roll.read(0, 0, 0); break;
            case 32: roll.read(0, 1000, 900); break;
            case 33: roll.bill(0, 4, 0, 364, 5000, 90); break;
            case 34: roll.settle(0, 0, 400); break;
            case 35: roll.deposit(1, 50, 500); break;
            case 36: roll.use(1, 60, 100); break;
            case 37: roll.giveBack(1, 600); break;
            case 38: roll.work(1, 700, 800, 50); break;
            default: roll.notice(0, 1000); break;
        }
    }

    private static void knock() {
        Check.part("promise 31");
        Rentroll roll = new Rentroll();
        Check.eq(roll.knock(), 1);
        Check.eq(roll.knock(), 2);
        roll.flat(0, 5);
        roll.undo();
        // REFUSED is not undone, and a knock can't be undone
        Check.eq(roll.count(8), 2);
        Check.eq(roll.count(7), 0);
        Check.notNow(roll::undo);
        Check.eq(roll.knock(), 3);
        Check.eq(new Rentroll().knock(), 1);
    }

    private static void text() {
        Check.part("promise 41");
        Rentroll roll = withLease();
        roll.flat(2, 5);
        roll.lease(1, 1824, -1, 6, 100000, 2);
        Check.eq(roll.text(0), "flat 0 from 10 to 99 heads 2 rent 300 way 0");
        Check.eq(roll.text(1), "flat 1 from 1824 to -1 heads 6 rent 100000 way 2");
        // of the DAY FROM, as it is told now; a NOTICE does not change TO
        roll.heads(0, 11, 3);
        roll.step(0, 11, 5);
        Check.eq(roll.text(0), "flat 0 from 10 to 99 heads 2 rent 300 way 0");
        roll.heads(0, 10, 4);
        roll.step(0, 10, 6);
        roll.option(0, 901);
        roll.notice(0, 10);
        Check.eq(roll.text(0), "flat 0 from 10 to 1000 heads 4 rent 6 way 0");
        Check.noSuch(() -> roll.text(2));
        Check.noSuch(() -> roll.text(-1));
    }

    private static void spoiled() {
        Check.part("promise 42");
        Rentroll roll = withLease();
        // "flat 0 from 10 to 99 heads 2 rent 300 way 0": places 0, 5, 7, 12, 15, 18, 21, 27, 29, 34, 38, 42
        Check.eq(roll.text(0).length(), 43);
        int[] names = {0, 7, 15, 21, 29, 38};
        for (int at = 0; at < names.length; at++) {
            Check.eq(roll.spoiled(0, names[at], 5), 2 * at);
            Check.eq(roll.spoiled(0, names[at], 10), 2 * at);
            Check.eq(roll.spoiled(0, names[at], 11), 2 * at);
        }
        // a blank that is gone makes one WORD of two
        Check.eq(roll.spoiled(0, 4, 0), 0);
        Check.eq(roll.spoiled(0, 6, 0), 1);
        Check.eq(roll.spoiled(0, 41, 0), 10);
        // a number that is gone: the next WORD stands in its place; the last one is missing
        Check.eq(roll.spoiled(0, 5, 11), 1);
        Check.eq(roll.spoiled(0, 42, 11), 11);
        // a blank for a blank, a sign for itself
        Check.eq(roll.spoiled(0, 4, 11), -1);
        Check.eq(roll.spoiled(0, 5, 0), -1);
        Check.noSuch(() -> roll.spoiled(1, 0, 12));
        Check.noSuch(() -> roll.spoiled(0, -1, 12));
        Check.noSuch(() -> roll.spoiled(0, 43, 12));
        Check.notLet(() -> roll.spoiled(0, 42, -1));
        Check.notLet(() -> roll.spoiled(0, 42, 12));
        Check.eq(roll.text(0), "flat 0 from 10 to 99 heads 2 rent 300 way 0");
    }

    private static void spoiledNumbers() {
        Rentroll roll = withLease();
        roll.flat(0, 5);
        roll.lease(1, 100, 900, 6, 100000, 2);
        // the FLAT must be there
        Check.eq(roll.spoiled(0, 5, 1), -1);
        Check.eq(roll.spoiled(0, 5, 2), 1);
        // FROM 90 is ahead of TO 99, and TO 19 behind FROM 10, but 09 is not, nor -9
        Check.eq(roll.spoiled(0, 12, 9), -1);
        Check.eq(roll.spoiled(0, 18, 1), -1);
        Check.eq(roll.spoiled(0, 18, 0), 5);
        Check.eq(roll.spoiled(0, 18, 10), 5);
        // FROM "-0" is 0
        Check.eq(roll.spoiled(0, 12, 10), -1);
        Check.eq(roll.spoiled(0, 13, 10), 3);
        Check.eq(roll.spoiled(0, 27, 0), 7);
        Check.eq(roll.spoiled(0, 27, 6), -1);
        Check.eq(roll.spoiled(0, 27, 7), 7);
        Check.eq(roll.spoiled(0, 34, 0), 9);
        Check.eq(roll.spoiled(0, 34, 1), -1);
        Check.eq(roll.spoiled(0, 34, 10), 9);
        Check.eq(roll.spoiled(0, 42, 2), -1);
        Check.eq(roll.spoiled(0, 42, 3), 11);
        Check.eq(roll.spoiled(0, 42, 10), 11);
        // "flat 1 from 100 to 900 heads 6 rent 100000 way 2": 6 digits are let, 7 are not
        Check.eq(roll.text(1).length(), 48);
        Check.eq(roll.spoiled(1, 36, 2), 9);
        Check.eq(roll.spoiled(1, 36, 0), 9);
        Check.eq(roll.spoiled(1, 41, 1), 9);
        Check.eq(roll.spoiled(1, 42, 0), 9);
        // a number parted in two: what is behind is not "to"
        Check.eq(roll.spoiled(1, 13, 11), 4);
        Check.eq(roll.spoiled(1, 38, 11), 10);
        Check.eq(roll.spoiled(1, 39, 11), 10);
        // open: TO is -1; without the "-" it is 1, ahead of FROM; -2 is none
        Rentroll open = new Rentroll();
        open.flat(0, 5);
        open.lease(0, 10, -1, 1, 5, 0);
        int at = open.text(0).indexOf('-');
        Check.eq(open.spoiled(0, at, 0), 5);
        Check.eq(open.spoiled(0, at, 1), -1);
        Check.eq(open.spoiled(0, at, 11), 5);
        Check.eq(open.spoiled(0, at + 1, 2), 5);
        Check.eq(open.spoiled(0, at + 1, 10), 5);
        Check.eq(open.spoiled(0, at + 1, 11), 5);
        // a WORD more: no sign of a WAY can be parted, so that 12 is told of none
        int length = open.text(0).length();
        for (int sign = 0; sign <= 11; sign++) {
            Rentroll each = new Rentroll();
            each.flat(0, 5);
            each.lease(0, 10, -1, 1, 5, 0);
            for (int place = 0; place < length; place++) {
                Check.yes(each.spoiled(0, place, sign) < 12);
            }
        }
    }

    private static void depositOf() {
        Check.part("promise 47");
        Rentroll roll = withLease();
        roll.rate(0, 2000);
        roll.deposit(0, 0, 1825);
        roll.deposit(0, 20, 1825);
        Check.eq(roll.depositOf(0, 0, 0), 1825);
        Check.eq(roll.depositOf(0, 19, 0), 1825);
        Check.eq(roll.depositOf(0, 20, 0), 3650);
        Check.eq(roll.depositOf(0, 1824, 0), 3650);
        // on an earlier DAY than the last move these are 0
        Check.eq(roll.depositOf(0, 19, 1), 0);
        // 20 days of half a coin twice told: 1825 * 2000 are one coin
        Check.eq(roll.depositOf(0, 20, 1), 20);
        Check.eq(roll.depositOf(0, 21, 1), 22);
        Check.eq(roll.depositOf(0, 1824, 1), 20 + 2 * 1804);
        Check.noSuch(() -> roll.depositOf(1, -1, 0));
        Check.notLet(() -> roll.depositOf(0, -1, 0));
        Check.notLet(() -> roll.depositOf(0, 1825, 0));
        Check.notLet(() -> roll.depositOf(0, 0, -1));
        Check.notLet(() -> roll.depositOf(0, 0, 2));
        // units of all days together are cut once
        Rentroll slow = withLease();
        slow.rate(0, 1);
        slow.deposit(0, 0, 2000);
        Check.eq(slow.depositOf(0, 1824, 1), 0);
        slow.deposit(0, 0, 2000);
        Check.eq(slow.depositOf(0, 912, 1), 0);
        Check.eq(slow.depositOf(0, 913, 1), 1);
        Rentroll none = withLease();
        Check.eq(none.depositOf(0, 1824, 0), 0);
        Check.eq(none.depositOf(0, 1824, 1), 0);
    }

    private static void free() {
        Check.part("promise 48");
        Rentroll roll = new Rentroll();
        roll.flat(0, 50);
        roll.flat(0, 50);
        Check.eq(roll.free(0), "0-1824");
        roll.lease(0, 10, 20, 1, 5, 0);
        roll.lease(0, 21, 30, 1, 5, 0);
        Check.eq(roll.free(0), "0-9 31-1824");
        roll.lease(0, 32, 1823, 1, 5, 0);
        Check.eq(roll.free(0), "0-9 31-31 1824-1824");
        Check.eq(roll.free(1), "0-1824");
        roll.lease(1, 0, -1, 1, 5, 0);
        Check.eq(roll.free(1), "");
        roll.terminate(3, 33);
        Check.eq(roll.free(1), "63-1824");
        roll.pay(3, 33, 10, -1);
        Check.eq(roll.free(1), "");
        roll.notice(3, 34);
        Check.eq(roll.free(1), "151-1824");
        Check.noSuch(() -> roll.free(2));
        Check.noSuch(() -> roll.free(-1));
    }

    private static void best() {
        Check.part("promise 49");
        Rentroll roll = new Rentroll();
        roll.flat(0, 50);
        roll.flat(0, 50);
        Check.eq(roll.best(0), "");
        roll.work(0, 0, 99, 10);
        roll.work(0, 50, 149, 15);
        roll.work(0, 100, 199, 10);
        roll.work(1, 0, 5, 1000);
        Check.eq(roll.best(0), "0 2");
        Check.eq(roll.best(1), "3");
        // those that do not lie in a FREE SPAN drop out
        roll.lease(0, 199, 300, 1, 5, 0);
        Check.eq(roll.best(0), "1");
        roll.lease(0, 0, 0, 1, 5, 0);
        Check.eq(roll.best(0), "1");
        roll.lease(0, 100, 100, 1, 5, 0);
        Check.eq(roll.best(0), "");
        // days of two may not be alike, not even one
        roll.work(1, 5, 9, 999);
        Check.eq(roll.best(1), "3");
        roll.work(1, 6, 9, 1);
        Check.eq(roll.best(1), "3 5");
        Check.noSuch(() -> roll.best(2));
        Check.noSuch(() -> roll.best(-1));
    }

    private static void bestOfSeveral() {
        Rentroll roll = new Rentroll();
        roll.flat(0, 50);
        roll.work(0, 0, 9, 5);
        roll.work(0, 10, 19, 5);
        // as much in one: the fewest
        roll.work(0, 0, 19, 10);
        Check.eq(roll.best(0), "2");
        // of as many the least numbers: 0 3 against 1 4
        Rentroll other = new Rentroll();
        other.flat(0, 50);
        other.work(0, 0, 9, 7);
        other.work(0, 0, 9, 6);
        other.work(0, 10, 19, 1);
        other.work(0, 10, 19, 3);
        other.work(0, 10, 19, 3);
        Check.eq(other.best(0), "0 3");
        // numbers, not signs: all ten
        Rentroll all = new Rentroll();
        all.flat(0, 50);
        for (int work = 0; work < 10; work++) {
            all.work(0, work, work, 1);
        }
        Check.eq(all.best(0), "0 1 2 3 4 5 6 7 8 9");
        // 0 3 is less than 1 2, though the numbers together are alike
        Rentroll pairs = new Rentroll();
        pairs.flat(0, 50);
        pairs.work(0, 0, 9, 4);
        pairs.work(0, 0, 14, 4);
        pairs.work(0, 15, 19, 4);
        pairs.work(0, 10, 19, 4);
        Check.eq(pairs.best(0), "0 2");
        pairs.lease(0, 20, -1, 1, 5, 0);
        Check.eq(pairs.best(0), "0 2");
        pairs.undo();
        pairs.lease(0, 0, 9, 1, 5, 0);
        Check.eq(pairs.best(0), "2");
    }
}

/** "Edges of days and amounts" of the section "Deposits, empty flats", sentence by sentence, and of the whole. */
public final class EdgesOfDepositsTest {
    public static void main(String[] args) {
        notAheadOfTheLastDay();
        inItBehindThatDay();
        usedIsAPayment();
        fruitsOfTheDayBehind();
        fruitsByTheRateOfThatDay();
        fruitsAreCut();
        fruitsOneUnitBelow();
        noFruitsAheadOfTheLastMove();
        fruitsBehindGivingBack();
        givenBackIsAll();
        givenBackBehindLast();
        givenBackOfNothing();
        freeSpansAtBothEnds();
        freeSpanOfOneDay();
        noFreeSpanBetween();
        freeSpansByLast();
        worksInFreeSpans();
        worksOfTwoHaveNoDay();
        greatestSumOfWorth();
        ofSeveralTheFewest();
        leastNumbersFirst();
        worksOfAFlat();
        textOfAllLimits();
        faultOfNumbersByOne();
        faultOfSigns();
        faultOfBlanks();
        faultOfNames();
        faultOfToAndFrom();
        faultOfDigits();
        countOfEach();
        ownerOfSeveral();
        Check.end("EdgesOfDepositsTest");
    }

    /** A LEASE from 10 to 99. */
    private static Rentroll lease() {
        Rentroll roll = new Rentroll();
        roll.flat(0, 50);
        roll.lease(0, 10, 99, 2, 300, 0);
        return roll;
    }

    private static void notAheadOfTheLastDay() {
        Check.part("DEPOSIT: each on a DAY that is not ahead of the last such one");
        Rentroll roll = lease();
        Check.eq(roll.deposit(0, 0, 10), 10);
        Check.eq(roll.deposit(0, 0, 10), 20);
        Check.eq(roll.deposit(0, 100, 10), 30);
        Check.eq(roll.deposit(0, 99, 10), -9);
        Check.eq(roll.use(0, 99, 10), -9);
        Check.eq(roll.use(0, 100, 10), 20);
        Check.eq(roll.use(0, 200, 5), 15);
        Check.eq(roll.giveBack(0, 199), -9);
        Check.eq(roll.giveBack(0, 200), 15);
        Check.eq(roll.deposit(0, 199, 1), -9);
        Check.eq(roll.deposit(0, 1824, 1), 1);
        Check.eq(roll.use(0, 1823, 1), -9);
        Check.eq(roll.use(0, 1824, 1), 0);
        Check.eq(roll.giveBack(0, 1824), 0);
        // each LEASE has a DEPOSIT of its own
        roll.flat(0, 5);
        roll.lease(1, 0, -1, 1, 5, 0);
        Check.eq(roll.deposit(1, 0, 3), 3);
        Check.eq(roll.depositOf(0, 1824, 0), 0);
        Check.eq(roll.depositOf(1, 1824, 0), 3);
    }

    private static void inItBehindThatDay() {
        Check.part("promise 47: what is in its DEPOSIT behind that DAY");
        Rentroll roll = lease();
        roll.deposit(0, 50, 100);
        roll.use(0, 60, 30);
        roll.deposit(0, 60, 1);
        roll.giveBack(0, 100);
        roll.deposit(0, 1824, 7);
        int[] days = {0, 49, 50, 59, 60, 61, 99, 100, 101, 1823, 1824};
        int[] held = {0, 0, 100, 100, 71, 71, 71, 0, 0, 0, 7};
        for (int at = 0; at < days.length; at++) {
            Check.eq(roll.depositOf(0, days[at], 0), held[at]);
        }
    }

    private static void usedIsAPayment() {
        Check.part("DEPOSIT: USED is a PAYMENT on its DAY, not by pay()");
        Rentroll roll = lease();
        roll.deposit(0, 0, 500);
        int before = roll.owed(0, 33, 0);
        roll.use(0, 33, 100);
        Check.eq(roll.owed(0, 33, 0), before - 100);
        Check.eq(roll.owed(0, 32, 0), roll.due(0, 0, 0));
        Check.eq(roll.count(3), 0);
        Check.eq(roll.owner(0, 0, 2), 0);
        // all of it, of which a part is CREDIT
        roll.use(0, 1824, 400);
        Check.eq(roll.owed(0, 1824, 0) - roll.owed(0, 1824, 1), roll.owed(0, 1823, 0) - 400);
        Check.yes(roll.isSound());
    }

    private static void fruitsOfTheDayBehind() {
        Check.part("FRUITS by a DAY: for each day, that one too, what was in it behind the day ahead of it");
        // 3650 * 1000 are a coin a day
        Rentroll roll = lease();
        roll.rate(0, 1000);
        roll.deposit(0, 0, 3650);
        int[] days = {0, 1, 2, 1823, 1824};
        int[] fruits = {0, 1, 2, 1823, 1824};
        for (int at = 0; at < days.length; at++) {
            Check.eq(roll.depositOf(0, days[at], 1), fruits[at]);
        }
        // what is put in or USED on a DAY counts from the day behind on
        roll.deposit(0, 50, 3650);
        Check.eq(roll.depositOf(0, 50, 1), 50);
        Check.eq(roll.depositOf(0, 51, 1), 52);
        roll.use(0, 60, 7300);
        Check.eq(roll.depositOf(0, 60, 1), 50 + 20);
        Check.eq(roll.depositOf(0, 61, 1), 70);
        Check.eq(roll.depositOf(0, 1824, 1), 70);
        Rentroll last = lease();
        last.rate(0, 1000);
        last.deposit(0, 1823, 3650);
        Check.eq(last.depositOf(0, 1823, 1), 0);
        Check.eq(last.depositOf(0, 1824, 1), 1);
        last.deposit(0, 1824, 36500);
        Check.eq(last.depositOf(0, 1824, 1), 1);
    }

    private static void fruitsByTheRateOfThatDay() {
        Check.part("FRUITS: times the RATE of that day");
        int[][] dayAndFruits = {{0, 5}, {10, 5}, {11, 5}, {12, 4}, {15, 1}, {16, 0}};
        for (int[] pair : dayAndFruits) {
            Rentroll roll = lease();
            roll.deposit(0, 10, 3650);
            roll.rate(pair[0], 1000);
            Check.eq(roll.depositOf(0, 15, 1), pair[1]);
        }
        Rentroll roll = lease();
        roll.deposit(0, 10, 3650);
        roll.rate(0, 5000);
        roll.rate(11, 1000);
        roll.rate(12, 0);
        roll.rate(14, 2000);
        int[] fruits = {0, 1, 1, 1, 3, 5};
        for (int day = 10; day <= 15; day++) {
            Check.eq(roll.depositOf(0, day, 1), fruits[day - 10]);
        }
    }

    private static void fruitsAreCut() {
        Check.part("FRUITS: coins: UNITS / 3650000, cut");
        Rentroll roll = lease();
        roll.rate(0, 1000);
        roll.deposit(0, 0, 3649);
        Check.eq(roll.depositOf(0, 1, 1), 0);
        Check.eq(roll.depositOf(0, 2, 1), 1);
        // 1824 * 3649 * 1000 are 1823.5 coins
        Check.eq(roll.depositOf(0, 1824, 1), 1823);
        Rentroll small = lease();
        small.rate(0, 1);
        small.deposit(0, 0, 2001);
        Check.eq(small.depositOf(0, 1824, 1), 0);
        small.deposit(0, 0, 1);
        Check.eq(small.depositOf(0, 1823, 1), 0);
        Check.eq(small.depositOf(0, 1824, 1), 1);
        // UNITS that no int holds
        Rentroll great = lease();
        great.rate(0, 5000);
        great.deposit(0, 0, 100000);
        great.deposit(0, 0, 100000);
        Check.eq(great.depositOf(0, 1824, 1), 200000L * 5000 * 1824 / 3650000);
    }

    private static void fruitsOneUnitBelow() {
        Check.part("FRUITS: 3649999 UNITS are none, 3650000 are one");
        Rentroll roll = lease();
        roll.deposit(0, 0, 3649);
        roll.rate(1, 1000);
        roll.rate(2, 0);
        roll.use(0, 20, 2650);
        roll.rate(21, 1);
        roll.rate(22, 0);
        Check.eq(roll.depositOf(0, 21, 1), 0);
        Check.eq(roll.depositOf(0, 1824, 1), 0);
        roll.use(0, 30, 998);
        roll.rate(31, 1);
        roll.rate(32, 0);
        Check.eq(roll.depositOf(0, 30, 1), 0);
        Check.eq(roll.depositOf(0, 31, 1), 1);
        Check.eq(roll.giveBack(0, 100), 2);
    }

    private static void noFruitsAheadOfTheLastMove() {
        Check.part("promise 47: these are 0, if something was done with it on a later DAY");
        Rentroll roll = lease();
        roll.rate(0, 1000);
        roll.deposit(0, 0, 3650);
        Check.eq(roll.depositOf(0, 59, 1), 59);
        roll.deposit(0, 60, 1);
        Check.eq(roll.depositOf(0, 59, 1), 0);
        Check.eq(roll.depositOf(0, 60, 1), 60);
        roll.use(0, 70, 1);
        Check.eq(roll.depositOf(0, 69, 1), 0);
        Check.eq(roll.depositOf(0, 70, 1), 70);
        roll.giveBack(0, 100);
        Check.eq(roll.depositOf(0, 99, 1), 0);
        Check.eq(roll.depositOf(0, 100, 1), 0);
        roll.undo();
        Check.eq(roll.depositOf(0, 99, 1), 99);
        // what is in it is told of earlier DAYS, too
        Check.eq(roll.depositOf(0, 59, 0), 3650);
    }

    private static void fruitsBehindGivingBack() {
        Check.part("FRUITS: over the days behind that on which it was given back last (all, if it never was)");
        Rentroll roll = lease();
        roll.rate(0, 1000);
        roll.deposit(0, 0, 3650);
        Check.eq(roll.giveBack(0, 100), 3650 + 100);
        roll.deposit(0, 100, 3650);
        Check.eq(roll.depositOf(0, 100, 1), 0);
        Check.eq(roll.depositOf(0, 101, 1), 1);
        Check.eq(roll.giveBack(0, 110), 3650 + 10);
        Check.eq(roll.giveBack(0, 110), 0);
        roll.deposit(0, 120, 3650);
        Check.eq(roll.depositOf(0, 121, 1), 1);
        Check.eq(roll.giveBack(0, 1824), 3650 + 1704);
        Check.eq(roll.depositOf(0, 1824, 1), 0);
        roll.undo();
        Check.eq(roll.depositOf(0, 1824, 1), 1704);
    }

    private static void givenBackIsAll() {
        Check.part("promise 28: all coins that are in it, and its FRUITS, by that DAY, that one too");
        for (int day = 100; day <= 102; day++) {
            Rentroll roll = lease();
            roll.rate(0, 1000);
            roll.deposit(0, 99, 3650);
            roll.deposit(0, 100, 3650);
            Check.eq(roll.giveBack(0, day), 7300 + (day == 100 ? 1 : day == 101 ? 3 : 5));
            Check.eq(roll.depositOf(0, day, 0), 0);
            Check.eq(roll.depositOf(0, day - 1, 0), day == 100 ? 3650 : 7300);
            Check.eq(roll.depositOf(0, 1824, 0), 0);
            Check.eq(roll.depositOf(0, 1824, 1), 0);
        }
    }

    private static void givenBackBehindLast() {
        Check.part("promise 28: the DAY behind LAST");
        int[][] toAndDay = {{10, 11}, {99, 100}, {1822, 1823}, {1823, 1824}};
        for (int[] pair : toAndDay) {
            Rentroll roll = new Rentroll();
            roll.flat(0, 5);
            roll.lease(0, 10, pair[0], 1, 5, 0);
            roll.deposit(0, 0, 50);
            Check.eq(roll.giveBack(0, pair[0]), -9);
            Check.eq(roll.giveBack(0, pair[1]), 50);
        }
        Rentroll end = new Rentroll();
        end.flat(0, 5);
        end.lease(0, 10, 1824, 1, 5, 0);
        Check.eq(end.giveBack(0, 1824), -9);
        // LAST that was later once: given back, and then an OPTION
        Rentroll later = lease();
        later.deposit(0, 0, 50);
        Check.eq(later.giveBack(0, 100), 50);
        later.option(0, 1);
        Check.eq(later.giveBack(0, 100), -9);
        Check.eq(later.giveBack(0, 101), 0);
    }

    private static void givenBackOfNothing() {
        Check.part("promise 28: nothing that is in it is 0, and it is done on that DAY");
        Rentroll roll = lease();
        Check.eq(roll.giveBack(0, 100), 0);
        Check.eq(roll.count(7), 3);
        Check.eq(roll.deposit(0, 99, 1), -9);
        Check.eq(roll.deposit(0, 100, 1), 1);
    }

    private static void freeSpansAtBothEnds() {
        Check.part("FREE SPANS: the greatest spans of DAYS without a LEASE, at DAY 0 and at DAY 1824");
        int[][] spans = {{0, 0}, {0, 1823}, {1, 1823}, {1, 1824}, {1824, 1824}, {0, 1824}, {0, -1}, {1, -1}};
        String[] free = {"1-1824", "1824-1824", "0-0 1824-1824", "0-0", "0-1823", "", "", "0-0"};
        for (int at = 0; at < spans.length; at++) {
            Rentroll roll = new Rentroll();
            roll.flat(0, 5);
            roll.lease(0, spans[at][0], spans[at][1], 1, 5, 0);
            Check.eq(roll.free(0), free[at]);
            Check.yes(roll.isSound());
        }
    }

    private static void freeSpanOfOneDay() {
        Check.part("FREE SPANS: of one day, rising, whatever the order of the LEASES");
        Rentroll roll = new Rentroll();
        roll.flat(0, 5);
        roll.lease(0, 500, 600, 1, 5, 0);
        roll.lease(0, 100, 200, 1, 5, 0);
        roll.lease(0, 202, 498, 1, 5, 0);
        Check.eq(roll.free(0), "0-99 201-201 499-499 601-1824");
        roll.lease(0, 499, 499, 1, 5, 0);
        Check.eq(roll.free(0), "0-99 201-201 601-1824");
    }

    private static void noFreeSpanBetween() {
        Check.part("FREE SPANS: none between LEASES that follow one another");
        Rentroll roll = new Rentroll();
        roll.flat(0, 5);
        roll.lease(0, 101, 200, 1, 5, 0);
        roll.lease(0, 0, 100, 1, 5, 0);
        roll.lease(0, 201, -1, 1, 5, 0);
        Check.eq(roll.free(0), "");
        roll.undo();
        Check.eq(roll.free(0), "201-1824");
    }

    private static void freeSpansByLast() {
        Check.part("FREE SPANS: by NOTICE, by TERMINATION that is not CURED");
        Rentroll roll = new Rentroll();
        roll.flat(0, 5);
        roll.lease(0, 0, -1, 1, 300, 0);
        roll.notice(0, 100);
        Check.eq(roll.free(0), "212-1824");
        roll.terminate(0, 33);
        Check.eq(roll.free(0), "63-1824");
        roll.work(0, 63, 63, 5);
        Check.eq(roll.best(0), "0");
        roll.pay(0, 62, 600, -1);
        Check.eq(roll.free(0), "212-1824");
        Check.eq(roll.best(0), "");
    }

    private static void worksInFreeSpans() {
        Check.part("BEST: those of its WORKS that lie in FREE SPANS");
        int[][] spans = {{0, 9, 1}, {0, 10, 0}, {9, 9, 1}, {10, 10, 0}, {99, 100, 0}, {100, 100, 1}, {100, 199, 1},
            {100, 200, 0}, {99, 199, 0}, {0, 1824, 0}, {200, 200, 0}, {301, 1824, 1}, {300, 300, 0}, {9, 100, 0},
            {9, 10, 0}, {9, 50, 0}, {199, 200, 0}, {198, 200, 0}, {99, 99, 0}};
        for (int[] s : spans) {
            Rentroll roll = lease();
            roll.lease(0, 200, 300, 1, 5, 0);
            roll.work(0, s[0], s[1], 5);
            Check.eq(roll.best(0), s[2] == 1 ? "0" : "");
        }
        // all DAYS, if there is no LEASE
        Rentroll empty = new Rentroll();
        empty.flat(0, 5);
        empty.work(0, 0, 1824, 1);
        Check.eq(empty.best(0), "0");
    }

    private static void worksOfTwoHaveNoDay() {
        Check.part("BEST: and have no day of two");
        int[][] seconds = {{0, 9}, {9, 10}, {10, 19}, {14, 15}, {19, 19}, {19, 20}, {20, 29}, {0, 1824}, {12, 13}};
        String[] best = {"0 1", "0", "0", "0", "0", "0", "0 1", "0", "0"};
        for (int at = 0; at < seconds.length; at++) {
            Rentroll roll = new Rentroll();
            roll.flat(0, 5);
            roll.work(0, 10, 19, 5);
            roll.work(0, seconds[at][0], seconds[at][1], 4);
            Check.eq(roll.best(0), best[at]);
        }
        // the one with the greater number may be earlier
        Rentroll order = new Rentroll();
        order.flat(0, 5);
        order.work(0, 20, 29, 5);
        order.work(0, 0, 9, 5);
        order.work(0, 10, 19, 5);
        Check.eq(order.best(0), "0 1 2");
    }

    private static void greatestSumOfWorth() {
        Check.part("BEST: the greatest sum of worth, one more or less");
        String[] best = {"1 2", "0", "0"};
        for (int worth = 999; worth <= 1000; worth++) {
            Rentroll roll = new Rentroll();
            roll.flat(0, 5);
            roll.work(0, 0, 19, worth);
            roll.work(0, 0, 9, 500);
            roll.work(0, 10, 19, 500);
            Check.eq(roll.best(0), best[worth - 999]);
        }
        // all ten of 1000
        Rentroll all = new Rentroll();
        all.flat(0, 5);
        for (int work = 0; work < 9; work++) {
            all.work(0, work, work, 1000);
        }
        all.work(0, 9, 1824, 1000);
        Check.eq(all.best(0), "0 1 2 3 4 5 6 7 8 9");
    }

    private static void ofSeveralTheFewest() {
        Check.part("BEST: of several the fewest");
        Rentroll one = new Rentroll();
        one.flat(0, 5);
        one.work(0, 0, 9, 5);
        one.work(0, 10, 19, 5);
        one.work(0, 0, 19, 10);
        Check.eq(one.best(0), "2");
        // two against three, told ahead of them
        Rentroll two = new Rentroll();
        two.flat(0, 5);
        two.work(0, 0, 9, 2);
        two.work(0, 10, 19, 2);
        two.work(0, 20, 29, 2);
        two.work(0, 0, 14, 3);
        two.work(0, 15, 29, 3);
        Check.eq(two.best(0), "3 4");
        // and behind them
        Rentroll behind = new Rentroll();
        behind.flat(0, 5);
        behind.work(0, 0, 14, 3);
        behind.work(0, 15, 29, 3);
        behind.work(0, 0, 9, 2);
        behind.work(0, 10, 19, 2);
        behind.work(0, 20, 29, 2);
        Check.eq(behind.best(0), "0 1");
    }

    private static void leastNumbersFirst() {
        Check.part("BEST: those whose numbers, written rising, are least, compared from the first one on");
        // of each three DAYS one WORK, all alike: the first of each
        Rentroll roll = new Rentroll();
        roll.flat(0, 5);
        int[] days = {1, 0, 1, 2, 0, 2};
        for (int day : days) {
            roll.work(0, day, day, 7);
        }
        Check.eq(roll.best(0), "0 1 3");
        // 0 and 5 against 1 and 2: the first one decides
        Rentroll first = new Rentroll();
        first.flat(0, 5);
        first.work(0, 0, 9, 6);
        first.work(0, 0, 14, 5);
        first.work(0, 15, 29, 5);
        first.work(0, 10, 12, 1);
        first.work(0, 10, 12, 2);
        first.work(0, 10, 29, 4);
        Check.eq(first.best(0), "0 2 4");
        first.undo();
        first.work(0, 10, 29, 7);
        Check.eq(first.best(0), "0 5");
        // 1 and 3 against 2 and 3, of which the latter is told first
        Rentroll later = new Rentroll();
        later.flat(0, 5);
        later.work(0, 5, 5, 1);
        later.work(0, 0, 9, 5);
        later.work(0, 0, 9, 5);
        later.work(0, 10, 19, 5);
        Check.eq(later.best(0), "1 3");
        // numbers, not signs: 2 is less than 9
        Rentroll ten = new Rentroll();
        ten.flat(0, 5);
        ten.flat(0, 5);
        for (int work = 0; work < 8; work++) {
            ten.work(work == 2 ? 0 : 1, 0, 0, 5);
        }
        ten.work(0, 5, 5, 5);
        ten.work(0, 0, 0, 5);
        Check.eq(ten.best(0), "2 8");
        Check.eq(ten.best(1), "0");
    }

    private static void worksOfAFlat() {
        Check.part("BEST: of its WORKS alone");
        Rentroll roll = new Rentroll();
        roll.flat(0, 5);
        roll.flat(1, 5);
        roll.work(0, 0, 9, 5);
        roll.work(1, 0, 9, 1000);
        roll.work(0, 10, 19, 5);
        Check.eq(roll.best(0), "0 2");
        Check.eq(roll.best(1), "1");
        roll.lease(0, 0, -1, 1, 5, 0);
        Check.eq(roll.best(0), "");
        Check.eq(roll.best(1), "1");
    }

    private static void textOfAllLimits() {
        Check.part("TEXT: of the least and of the greatest numbers");
        Rentroll roll = new Rentroll();
        for (int flat = 0; flat < 8; flat++) {
            roll.flat(0, 5);
        }
        roll.lease(0, 0, 0, 1, 1, 0);
        roll.lease(7, 1824, 1824, 6, 100000, 2);
        roll.lease(6, 0, -1, 6, 99999, 1);
        Check.eq(roll.text(0), "flat 0 from 0 to 0 heads 1 rent 1 way 0");
        Check.eq(roll.text(1), "flat 7 from 1824 to 1824 heads 6 rent 100000 way 2");
        Check.eq(roll.text(2), "flat 6 from 0 to -1 heads 6 rent 99999 way 1");
        // HEADS and RENT of the day FROM, both as they are told now
        roll.heads(2, 1, 1);
        roll.step(2, 1, 1);
        Check.eq(roll.text(2), "flat 6 from 0 to -1 heads 6 rent 99999 way 1");
        roll.heads(2, 0, 1);
        roll.step(2, 0, 1);
        Check.eq(roll.text(2), "flat 6 from 0 to -1 heads 1 rent 1 way 1");
        // a NOTICE and a TERMINATION are not TO
        roll.notice(2, 100);
        roll.terminate(2, 500);
        Check.eq(roll.text(2), "flat 6 from 0 to -1 heads 1 rent 1 way 1");
        Check.yes(roll.isSound());
    }

    /** The FAULT with a sign at the place of a TEXT, counted from the beginning of a WORD's name. */
    private static void fault(Rentroll roll, int lease, String name, int behind, int sign, int due) {
        int at = roll.text(lease).indexOf(name) + behind;
        Check.same(name + " " + behind + " with " + sign, roll.spoiled(lease, at, sign), due);
    }

    private static void faultOfNumbersByOne() {
        Check.part("FAULT: the numbers as lease() lets them, one beyond");
        Rentroll roll = new Rentroll();
        for (int flat = 0; flat < 5; flat++) {
            roll.flat(0, 5);
        }
        roll.lease(3, 1823, 1823, 5, 100000, 1);
        // "flat 3 from 1823 to 1823 heads 5 rent 100000 way 1"
        int[] flats = {-1, -1, -1, -1, -1, 1, 1, 1, 1, 1};
        int[] froms = {-1, -1, -1, -1, 5, 3, 3, 3, 3, 3};
        int[] tos = {5, 5, 5, -1, -1, 5, 5, 5, 5, 5};
        int[] heads = {7, -1, -1, -1, -1, -1, -1, 7, 7, 7};
        int[] rents = {-1, 9, 9, 9, 9, 9, 9, 9, 9, 9};
        int[] ways = {-1, -1, -1, 11, 11, 11, 11, 11, 11, 11};
        for (int digit = 0; digit <= 9; digit++) {
            fault(roll, 0, "flat", 5, digit, flats[digit]);
            fault(roll, 0, "from", 8, digit, froms[digit]);
            fault(roll, 0, "to", 6, digit, tos[digit]);
            fault(roll, 0, "heads", 6, digit, heads[digit]);
            fault(roll, 0, "rent", 10, digit, rents[digit]);
            fault(roll, 0, "way", 4, digit, ways[digit]);
        }
        // FROM 0 and TO 0, RENT 1 and 0
        Rentroll least = new Rentroll();
        least.flat(0, 5);
        least.lease(0, 0, 0, 1, 1, 0);
        fault(least, 0, "flat", 5, 1, 1);
        fault(least, 0, "from", 5, 1, 5);
        fault(least, 0, "to", 3, 1, -1);
        fault(least, 0, "heads", 6, 0, 7);
        fault(least, 0, "rent", 5, 0, 9);
        fault(least, 0, "rent", 5, 9, -1);
        // a FLAT that comes makes its number right
        least.flat(0, 5);
        fault(least, 0, "flat", 5, 1, -1);
        fault(least, 0, "flat", 5, 2, 1);
    }

    private static void faultOfSigns() {
        Check.part("FAULT: \"-\" or not");
        Rentroll roll = new Rentroll();
        roll.flat(0, 5);
        roll.flat(0, 5);
        roll.lease(1, 10, 25, 6, 12, 2);
        // alone it is no number; ahead of digits it is one below 0, but "-0" is 0
        fault(roll, 0, "flat", 5, 10, 1);
        fault(roll, 0, "from", 5, 10, -1);
        fault(roll, 0, "from", 6, 10, 3);
        fault(roll, 0, "to", 3, 10, 5);
        fault(roll, 0, "to", 4, 10, 5);
        fault(roll, 0, "heads", 6, 10, 7);
        fault(roll, 0, "rent", 5, 10, 9);
        fault(roll, 0, "rent", 6, 10, 9);
        fault(roll, 0, "way", 4, 10, 11);
        // TO -1 is NONE: 21 with "-" ahead
        Rentroll open = new Rentroll();
        open.flat(0, 5);
        open.lease(0, 10, 21, 6, 12, 2);
        fault(open, 0, "to", 3, 10, -1);
        open.flat(0, 5);
        open.lease(1, 10, 22, 6, 12, 2);
        fault(open, 1, "to", 3, 10, 5);
        // "1-0" and "10-" are no numbers
        open.flat(0, 5);
        open.lease(2, 10, 100, 6, 120, 2);
        fault(open, 2, "to", 4, 10, 5);
        fault(open, 2, "to", 5, 10, 5);
        fault(open, 2, "rent", 6, 10, 9);
        // -1 of any other number is not let
        open.flat(0, 5);
        open.lease(3, 91, 191, 6, 91, 2);
        fault(open, 3, "from", 5, 10, 3);
        fault(open, 3, "rent", 5, 10, 9);
    }

    private static void faultOfBlanks() {
        Check.part("FAULT: several blanks side by side part once, those ahead of all do nothing");
        Rentroll roll = new Rentroll();
        roll.flat(0, 5);
        roll.lease(0, 40, 405, 6, 1200, 2);
        // "flat 0 from 40 to 405 heads 6 rent 1200 way 2"
        fault(roll, 0, "from", 5, 11, -1);
        fault(roll, 0, "from", 6, 11, -1);
        fault(roll, 0, "to", 3, 11, 5);
        fault(roll, 0, "to", 5, 11, -1);
        // a number in two WORDS
        fault(roll, 0, "to", 4, 11, 5);
        fault(roll, 0, "rent", 5, 11, -1);
        fault(roll, 0, "rent", 6, 11, 10);
        fault(roll, 0, "rent", 7, 11, 10);
        fault(roll, 0, "rent", 8, 11, -1);
        // a number that is gone: the name behind it stands in its place; the last one is missing
        fault(roll, 0, "flat", 5, 11, 1);
        fault(roll, 0, "heads", 6, 11, 7);
        fault(roll, 0, "way", 4, 11, 11);
        // ahead of all: "lat"
        fault(roll, 0, "flat", 0, 11, 0);
        // a blank for a blank
        fault(roll, 0, "flat", 4, 11, -1);
        fault(roll, 0, "way", 3, 11, -1);
        // a name in two WORDS
        fault(roll, 0, "flat", 3, 11, 0);
        fault(roll, 0, "heads", 2, 11, 6);
        fault(roll, 0, "way", 2, 11, 10);
        fault(roll, 0, "to", 1, 11, 4);
    }

    private static void faultOfNames() {
        Check.part("FAULT: the first WORD that is not right");
        Rentroll roll = lease();
        String[] names = {"flat", "from", "to", "heads", "rent", "way"};
        for (int word = 0; word < names.length; word++) {
            for (int at = 0; at < names[word].length(); at++) {
                for (int sign : new int[] {0, 10, 11}) {
                    fault(roll, 0, names[word], at, sign, 2 * word);
                }
            }
            // the blank behind the name, then that ahead of it: two WORDS are one
            fault(roll, 0, names[word], names[word].length(), 5, 2 * word);
            fault(roll, 0, names[word], names[word].length(), 10, 2 * word);
            if (word > 0) {
                fault(roll, 0, names[word], -1, 5, 2 * word - 1);
                fault(roll, 0, names[word], -1, 10, 2 * word - 1);
            }
        }
    }

    private static void faultOfToAndFrom() {
        Check.part("FAULT: TO is from to 1824, or NONE");
        Rentroll roll = new Rentroll();
        roll.flat(0, 5);
        roll.flat(0, 5);
        roll.lease(0, 150, 155, 1, 5, 0);
        // FROM 155 is TO, 156 is behind it; TO 150 is FROM, 149 ahead of it
        fault(roll, 0, "from", 7, 5, -1);
        fault(roll, 0, "from", 7, 6, 5);
        fault(roll, 0, "to", 5, 0, -1);
        fault(roll, 0, "to", 4, 4, 5);
        // TO 1824 and 1825, FROM 1824 and 1825
        roll.lease(1, 1820, 1820, 1, 5, 0);
        fault(roll, 1, "to", 6, 4, -1);
        fault(roll, 1, "to", 6, 5, 5);
        fault(roll, 1, "from", 8, 4, 5);
        fault(roll, 1, "from", 8, 5, 3);
        // open: any FROM is right
        roll.flat(0, 5);
        roll.lease(2, 1820, -1, 1, 5, 0);
        fault(roll, 2, "from", 8, 4, -1);
        fault(roll, 2, "from", 8, 5, 3);
        fault(roll, 2, "to", 4, 2, 5);
        fault(roll, 2, "to", 4, 0, 5);
        fault(roll, 2, "to", 3, 0, 5);
        fault(roll, 2, "to", 3, 11, 5);
        // it need not MEET none: TO far behind the next LEASE
        roll.lease(0, 160, 165, 1, 5, 0);
        fault(roll, 0, "to", 3, 9, -1);
    }

    private static void faultOfDigits() {
        Check.part("FAULT: 1 to 6 digits");
        Rentroll roll = new Rentroll();
        roll.flat(0, 5);
        roll.lease(0, 10, 25, 6, 100000, 2);
        // six digits are a number, also with 0 ahead
        fault(roll, 0, "rent", 5, 0, 9);
        fault(roll, 0, "rent", 5, 1, -1);
        fault(roll, 0, "rent", 5, 2, 9);
        fault(roll, 0, "rent", 6, 1, 9);
        fault(roll, 0, "rent", 10, 1, 9);
        fault(roll, 0, "rent", 5, 10, 9);
        // seven signs, the last ones of which are a name
        fault(roll, 0, "rent", 11, 0, 9);
        Rentroll less = new Rentroll();
        less.flat(0, 5);
        less.lease(0, 10, 25, 6, 99999, 2);
        fault(less, 0, "rent", 5, 0, -1);
        fault(less, 0, "from", 5, 0, -1);
        fault(less, 0, "to", 3, 0, 5);
        fault(less, 0, "to", 3, 1, -1);
        Check.noSuch(() -> less.spoiled(0, less.text(0).length(), 0));
        Check.eq(less.spoiled(0, less.text(0).length() - 1, 0), -1);
    }

    private static void countOfEach() {
        Check.part("promise 51: for how many DAYS a RATE was told, INDEX values, PAYMENTS by pay()");
        Rentroll roll = lease();
        roll.rate(0, 0);
        roll.rate(1824, 5);
        roll.rate(0, 5);
        Check.eq(roll.count(6), 2);
        roll.index(0, 1);
        roll.index(59, 1);
        roll.index(59, 2);
        Check.eq(roll.count(5), 2);
        roll.deposit(0, 10, 5);
        roll.use(0, 10, 5);
        roll.advance(0, 5);
        roll.settle(0, 0, 5);
        Check.eq(roll.count(3), 0);
        roll.pay(0, 10, 5, -1);
        Check.eq(roll.count(3), 1);
        Check.eq(roll.count(7), 13);
        roll.undo();
        Check.eq(roll.count(3), 0);
        Check.eq(roll.count(7), 12);
    }

    private static void ownerOfSeveral() {
        Check.part("promise 50: of all its LEASES together");
        Rentroll roll = lease();
        roll.flat(1, 50);
        roll.flat(0, 50);
        roll.lease(1, 0, -1, 1, 7, 0);
        roll.lease(2, 0, -1, 1, 9, 0);
        roll.lease(0, 100, -1, 1, 11, 0);
        roll.pay(0, 10, 1, -1);
        roll.pay(1, 10, 20, -1);
        roll.pay(2, 10, 300, -1);
        roll.pay(3, 100, 4000, -1);
        Check.eq(roll.owner(0, 0, 2), 4301);
        Check.eq(roll.owner(1, 0, 2), 20);
        Check.eq(roll.owner(1, 0, 0), 84);
        // LEASE 0: 21 of 31, 1, 1, 10 of 30; LEASE 3: 20 of 30 of 11, and 8 MONTHS
        Check.eq(roll.owner(0, 0, 0), 203 + 300 + 300 + 100 + 9 * 12 + 7 + 8 * 11);
        Check.eq(roll.owner(0, 4, 0), 12 * 9 + 12 * 11);
    }
}

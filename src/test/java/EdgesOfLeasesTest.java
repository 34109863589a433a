/** "Edges of days and amounts" of the section "Days, flats, leases", sentence by sentence. */
public final class EdgesOfLeasesTest {
    private static final int[] LENGTHS = {31, 28, 31, 30, 31, 30, 31, 31, 30, 31, 30, 31};

    public static void main(String[] args) {
        monthsHaveTheirDays();
        oneDayOfEachMonth();
        yearsHaveTheirDays();
        yearsOfBills();
        areaFromDayZeroOn();
        areaOnTheLastDay();
        shiftOnTheSameDay();
        headsFromFromOn();
        leaseOfOneDay();
        leaseOfAllDays();
        stepOnItsDay();
        stepThatThereIsIsGone();
        answersOfThatDayBefore();
        lastIsTheLeast();
        lastIfCured();
        daysOfALease();
        leasesSideBySide();
        putOutAheadOfItsNotice();
        noticeInTheFirstThreeDays();
        noticeOverTheYear();
        optionTillTheEnd();
        optionOfOneThatWasPutOut();
        baseIsTheMonthOfFrom();
        barOrMore();
        aboveTheBase();
        adjustedIsRounded();
        topIsCut();
        adjustedAtMost100000();
        adjustTakesTheDayAhead();
        adjustMovesTheBase();
        middleRow();
        areaOnFirst();
        raisedAtMostByAFifth();
        raisedByTheDay1095Ahead();
        raisedByFromIfThatIsLater();
        raisedAtMost100000();
        raisedMoreThanTheDayAhead();
        Check.end("EdgesOfLeasesTest");
    }

    private static int first(int month) {
        int day = month / 12 * 365;
        for (int part = 0; part < month % 12; part++) {
            day += LENGTHS[part];
        }
        return day;
    }

    private static int length(int month) {
        return LENGTHS[month % 12];
    }

    /** A LEASE of a FLAT with an AREA of 50 and a RENT of 300. */
    private static Rentroll lease(int from, int to) {
        Rentroll roll = new Rentroll();
        roll.flat(0, 50);
        roll.lease(0, from, to, 2, 300, 0);
        return roll;
    }

    private static void monthsHaveTheirDays() {
        Check.part("MONTHS have 31, 28, 31, 30, 31, 30, 31, 31, 30, 31, 30, 31 days, FIRST and LENGTH");
        for (int month = 0; month < 60; month++) {
            Rentroll roll = new Rentroll();
            roll.flat(0, 5);
            roll.flat(0, 5);
            int end = first(month) + length(month) - 1;
            roll.lease(0, first(month), end, 1, 1000, 1);
            roll.lease(1, Math.max(first(month) - 1, 0), Math.min(end + 1, 1824), 1, 84000, 0);
            Check.eq(roll.due(0, month, 0), 1000);
            Check.eq(roll.due(1, month, 0), 84000);
            if (month > 0) {
                Check.eq(roll.due(0, month - 1, 0), 0);
                Check.eq(roll.due(1, month - 1, 0), Math.round(84000.0 / length(month - 1)));
            }
            if (month < 59) {
                Check.eq(roll.due(0, month + 1, 0), 0);
                Check.eq(roll.due(1, month + 1, 0), Math.round(84000.0 / length(month + 1)));
            }
        }
        Check.eq(first(59) + length(59) - 1, 1824);
    }

    private static void oneDayOfEachMonth() {
        Check.part("the first and the last day of a MONTH, alone, and both DAYS next to it");
        for (int month = 0; month < 60; month++) {
            int end = first(month) + length(month) - 1;
            for (int day : new int[] {first(month), end}) {
                Rentroll roll = new Rentroll();
                roll.flat(0, 5);
                roll.lease(0, day, day, 1, 100000, 0);
                roll.advance(0, 100000);
                int part = length(month) == 31 ? 3226 : length(month) == 30 ? 3333 : 3571;
                Check.eq(roll.due(0, month, 0), part);
                Check.eq(roll.due(0, month, 1), part);
                Check.eq(roll.owner(0, month / 12, 0), part);
                Check.eq(roll.ofLease(0, 9), month);
            }
        }
    }

    private static void yearsHaveTheirDays() {
        Check.part("a YEAR has 365 DAYS");
        Rentroll roll = lease(0, -1);
        int coins = 1;
        for (int year = 0; year <= 4; year++) {
            roll.pay(0, year * 365, coins, -1);
            roll.pay(0, year * 365 + 364, 10 * coins, -1);
            Check.eq(roll.owner(0, year, 2), 11 * coins);
            coins += 1;
        }
        for (int year = 0; year <= 4; year++) {
            Check.eq(roll.owner(0, year, 2), 11 * (year + 1));
        }
    }

    private static void yearsOfBills() {
        Check.part("BILLS whose last DAY is in that YEAR: its first and its last DAY");
        Rentroll roll = lease(0, -1);
        for (int year = 0; year <= 4; year++) {
            roll.bill(0, 0, 0, year * 365, 100 + year, 100);
            roll.bill(0, 0, year * 365 + 364, year * 365 + 364, 1000 + 10 * year, 100);
        }
        for (int year = 0; year <= 4; year++) {
            Check.eq(roll.owner(0, year, 3), 1100 + 11 * year);
            Check.eq(roll.owner(0, year, 4), 1100 + 11 * year);
            Check.eq(roll.settle(0, year, 5), 1);
            Check.eq(roll.settled(0, year), 1100 + 11 * year);
        }
    }

    private static void areaFromDayZeroOn() {
        Check.part("AREA: the first one from DAY 0 on; a change on DAY 0 takes its place");
        Rentroll roll = new Rentroll();
        roll.flat(0, 60);
        roll.flat(0, 40);
        Check.eq(roll.area(0, 0), 60);
        Check.eq(roll.area(0, 1824), 60);
        Check.eq(roll.shift(0, 1, 10, 0), 50);
        Check.eq(roll.area(0, 0), 50);
        Check.eq(roll.area(1, 0), 50);
        Check.eq(roll.area(1, 1824), 50);
    }

    private static void areaOnTheLastDay() {
        Check.part("AREA: that of the latest change that is not later");
        Rentroll roll = new Rentroll();
        roll.flat(0, 60);
        roll.flat(0, 40);
        roll.shift(0, 1, 10, 500);
        roll.shift(0, 1, 10, 1824);
        int[] days = {0, 499, 500, 501, 1823, 1824};
        int[] areas = {60, 60, 50, 50, 50, 40};
        for (int at = 0; at < days.length; at++) {
            Check.eq(roll.area(0, days[at]), areas[at]);
            Check.eq(roll.area(1, days[at]), 100 - areas[at]);
        }
    }

    private static void shiftOnTheSameDay() {
        Check.part("SHIFT: only if both have no later change than that DAY; one on that DAY is none");
        Rentroll roll = new Rentroll();
        roll.flat(0, 60);
        roll.flat(0, 40);
        roll.flat(0, 20);
        Check.eq(roll.shift(0, 1, 10, 500), 50);
        Check.eq(roll.shift(1, 2, 10, 500), 40);
        Check.eq(roll.shift(2, 0, 29, 500), 1);
        Check.eq(roll.area(0, 500), 79);
        Check.eq(roll.area(0, 499), 60);
        Check.eq(roll.shift(0, 1, 1, 499), -9);
        Check.eq(roll.shift(0, 1, 78, 501), 1);
        // it keeps 1, and gets more again
        Check.eq(roll.shift(0, 1, 1, 501), -9);
        Check.eq(roll.shift(1, 0, 1, 501), 117);
        Check.eq(roll.shift(0, 1, 1, 501), 1);
    }

    private static void headsFromFromOn() {
        Check.part("HEADS change on DAYS as AREAS do, FROM FROM on");
        Rentroll roll = lease(40, 100);
        roll.flat(0, 50);
        roll.lease(1, 0, -1, 2, 300, 0);
        Check.eq(roll.heads(0, 50, 6), 2);
        Check.eq(roll.heads(0, 49, 1), 2);
        Check.eq(roll.heads(0, 50, 4), 6);
        Check.eq(roll.heads(0, 51, 3), 4);
        Check.eq(roll.heads(0, 40, 3), 2);
        Check.eq(roll.heads(0, 1824, 5), 3);
        Check.eq(roll.heads(0, 1823, 5), 3);
        // a BILL for each of these DAYS: 3, 3, 1, 4, 3 HEADS besides 2, and none on DAYS 39 and 101
        int[] days = {40, 48, 49, 50, 51, 39, 101};
        String[] shares = {"60.000000", "60.000000", "33.333333", "66.666666", "60.000000", "0.000000", "0.000000"};
        for (int at = 0; at < days.length; at++) {
            roll.bill(0, 1, days[at], days[at], 100, 100);
            Check.eq(roll.exactShare(at, 0), shares[at]);
        }
    }

    private static void leaseOfOneDay() {
        Check.part("a LEASE of one day");
        for (int day : new int[] {0, 90, 364, 365, 1824}) {
            Rentroll roll = lease(day, day);
            Check.eq(roll.ofLease(0, 0), day);
            Check.eq(roll.ofLease(0, 2), day);
            Check.eq(roll.tenant(0, day), 0);
            Check.eq(roll.tenant(0, day == 0 ? 1 : day - 1), -1);
            Check.eq(roll.tenant(0, day == 1824 ? 1823 : day + 1), -1);
            Check.eq(roll.rentOf(0, day), 300);
            Check.eq(roll.owner(0, day / 365, 0), 10);
            Check.eq(roll.notice(0, day), -9);
            Check.eq(roll.lease(0, day, day, 1, 5, 0), -9);
            Check.yes(roll.isSound());
        }
    }

    private static void leaseOfAllDays() {
        Check.part("a LEASE from DAY 0 to DAY 1824, and an open one");
        for (int to : new int[] {1824, -1}) {
            Rentroll roll = lease(0, to);
            Check.eq(roll.ofLease(0, 1), to);
            Check.eq(roll.ofLease(0, 2), 1824);
            Check.eq(roll.tenant(0, 0), 0);
            Check.eq(roll.tenant(0, 1824), 0);
            Check.eq(roll.free(0), "");
            Check.eq(roll.owed(0, 1824, 0), 60 * 300);
            Check.eq(roll.owed(0, 1824, 3), 60);
            Check.yes(roll.isSound());
        }
    }

    private static void stepOnItsDay() {
        Check.part("a STEP is the RENT from its DAY on; 0 ahead of FROM");
        Rentroll roll = lease(40, 100);
        roll.step(0, 60, 400);
        roll.step(0, 1824, 500);
        int[] days = {0, 39, 40, 59, 60, 61, 100, 101, 1823, 1824};
        int[] rents = {0, 0, 300, 300, 400, 400, 400, 400, 400, 500};
        for (int at = 0; at < days.length; at++) {
            Check.eq(roll.rentOf(0, days[at]), rents[at]);
        }
        // of one that begins with DAY 1824
        Rentroll last = lease(1824, -1);
        Check.eq(last.rentOf(0, 1823), 0);
        Check.eq(last.rentOf(0, 1824), 300);
        Check.eq(last.step(0, 1824, 7), 300);
        Check.eq(last.rentOf(0, 1824), 7);
    }

    private static void stepThatThereIsIsGone() {
        Check.part("promise 7: a STEP that there is on that DAY is gone, on FROM the first RENT");
        Rentroll roll = lease(40, 100);
        Check.eq(roll.step(0, 40, 310), 300);
        Check.eq(roll.ofLease(0, 6), 1);
        Check.eq(roll.clause(0, 0, 0), 1);
        Check.eq(roll.step(0, 41, 320), 310);
        Check.eq(roll.step(0, 41, 330), 320);
        Check.eq(roll.ofLease(0, 6), 2);
        Check.eq(roll.clause(0, 0, 0), 2);
        Check.eq(roll.text(0), "flat 0 from 40 to 100 heads 2 rent 310 way 0");
    }

    private static void answersOfThatDayBefore() {
        Check.part("promises 6, 7, 19: what was told for that DAY, not for the next one or the one ahead");
        Rentroll roll = lease(40, 100);
        roll.step(0, 60, 310);
        roll.heads(0, 60, 3);
        roll.rate(60, 30);
        Check.eq(roll.step(0, 59, 320), 300);
        Check.eq(roll.heads(0, 59, 4), 2);
        Check.eq(roll.rate(59, 40), 0);
        Check.eq(roll.step(0, 60, 330), 310);
        Check.eq(roll.heads(0, 60, 5), 3);
        Check.eq(roll.rate(60, 50), 30);
        Check.eq(roll.step(0, 61, 340), 330);
        Check.eq(roll.heads(0, 61, 6), 5);
        Check.eq(roll.rate(61, 60), 50);
        Check.eq(roll.step(0, 1824, 1), 340);
        Check.eq(roll.heads(0, 1824, 1), 6);
        Check.eq(roll.rate(1824, 1), 60);
        Check.eq(roll.step(0, 40, 1), 300);
        Check.eq(roll.heads(0, 40, 1), 2);
        Check.eq(roll.rate(0, 1), 0);
    }

    private static void lastIsTheLeast() {
        Check.part("LAST: the least of TO, what a NOTICE tells, and what a TERMINATION tells");
        // a NOTICE of DAY 2 tells 89; TERMINATIONS of DAYS 59, 60, 61 tell 88, 89, 90
        for (int day = 59; day <= 61; day++) {
            Rentroll noticed = lease(0, -1);
            noticed.notice(0, 2);
            Check.eq(noticed.ofLease(0, 2), 89);
            noticed.terminate(0, day);
            Check.eq(noticed.ofLease(0, 2), Math.min(89, day + 29));
            Check.eq(noticed.ofLease(0, 3), 89);
            Check.eq(noticed.ofLease(0, 1), -1);
            for (int to = 88; to <= 90; to++) {
                Rentroll ending = lease(0, to);
                ending.terminate(0, day);
                Check.eq(ending.ofLease(0, 2), Math.min(to, day + 29));
                Check.eq(ending.ofLease(0, 1), to);
            }
        }
        Rentroll all = lease(0, 90);
        all.notice(0, 2);
        Check.eq(all.ofLease(0, 2), 89);
        Check.eq(all.tenant(0, 89), 0);
        Check.eq(all.tenant(0, 90), -1);
    }

    private static void lastIfCured() {
        Check.part("LAST: a TERMINATION that is CURED tells nothing");
        Rentroll roll = lease(0, 200);
        roll.terminate(0, 33);
        Check.eq(roll.ofLease(0, 2), 62);
        roll.pay(0, 50, 600, -1);
        Check.eq(roll.ofLease(0, 2), 200);
        Check.eq(roll.ofLease(0, 4), 33);
        roll.undo();
        Check.eq(roll.ofLease(0, 2), 62);
        roll.pay(0, 50, 600, -1);
        roll.notice(0, 33);
        Check.eq(roll.ofLease(0, 2), 119);
    }

    private static void daysOfALease() {
        Check.part("its days: FROM to LAST");
        Rentroll roll = lease(40, -1);
        int[] lasts = {1824, 211, 121};
        for (int turn = 0; turn < 3; turn++) {
            if (turn == 1) {
                Check.eq(roll.notice(0, 100), 211);
            } else if (turn == 2) {
                Check.eq(roll.terminate(0, 92), 121);
            }
            int last = lasts[turn];
            Check.eq(roll.ofLease(0, 2), last);
            Check.eq(roll.tenant(0, 39), -1);
            Check.eq(roll.tenant(0, 40), 0);
            Check.eq(roll.tenant(0, last), 0);
            Check.eq(roll.tenant(0, Math.min(last + 1, 1824)), last == 1824 ? 0 : -1);
            Check.eq(roll.free(0), last == 1824 ? "0-39" : last == 211 ? "0-39 212-1824" : "0-39 122-1824");
        }
    }

    private static void leasesSideBySide() {
        Check.part("two LEASES of a FLAT that have no day of both");
        Rentroll roll = lease(100, 199);
        Check.eq(roll.lease(0, 200, 200, 1, 5, 0), 1);
        Check.eq(roll.lease(0, 99, 99, 1, 5, 0), 2);
        Check.eq(roll.lease(0, 0, 98, 1, 5, 0), 3);
        Check.eq(roll.lease(0, 201, -1, 1, 5, 0), 4);
        for (int day : new int[] {0, 98, 99, 100, 199, 200, 201, 1824}) {
            Check.eq(roll.tenant(0, day), day <= 98 ? 3 : day == 99 ? 2 : day < 200 ? 0 : day == 200 ? 1 : 4);
        }
        Check.eq(roll.free(0), "");
        // the same days of another FLAT
        roll.flat(0, 50);
        Check.eq(roll.lease(1, 100, 199, 1, 5, 0), 5);
        // the DAY behind what a NOTICE tells, not that DAY itself
        Check.eq(roll.notice(4, 201), 303);
        Check.eq(roll.lease(0, 303, 303, 1, 5, 0), -9);
        Check.eq(roll.lease(0, 304, 304, 1, 5, 0), 6);
        Check.yes(roll.isSound());
    }

    private static void putOutAheadOfItsNotice() {
        Check.part("OUT: TO is LAST then, whatever a NOTICE tells; also if it is CURED later");
        Rentroll roll = lease(0, -1);
        Check.eq(roll.notice(0, 40), 150);
        roll.terminate(0, 33);
        Check.eq(roll.out(0), 62);
        Check.eq(roll.ofLease(0, 1), 62);
        Check.eq(roll.ofLease(0, 3), 150);
        roll.pay(0, 50, 600, -1);
        Check.eq(roll.ofLease(0, 5), 1);
        Check.eq(roll.ofLease(0, 2), 62);
        Check.eq(roll.tenant(0, 62), 0);
        Check.eq(roll.tenant(0, 63), -1);
        Check.eq(roll.lease(0, 62, -1, 1, 5, 0), -9);
        Check.eq(roll.lease(0, 63, -1, 1, 5, 0), 1);
        Check.yes(roll.isSound());
    }

    private static void noticeInTheFirstThreeDays() {
        Check.part("NOTICE: one of the first three of its MONTH, or a later one");
        for (int month = 0; month <= 55; month++) {
            Rentroll roll = lease(0, -1);
            int[] days = {0, 1, 2, 3, 4, length(month) - 1};
            for (int day : days) {
                int end = first(day < 3 ? month + 3 : month + 4) - 1;
                Check.eq(roll.notice(0, first(month) + day), end);
                Check.eq(roll.ofLease(0, 2), end);
                roll.undo();
            }
        }
    }

    private static void noticeOverTheYear() {
        Check.part("NOTICE: MONTHS are numbered through");
        Rentroll roll = lease(0, -1);
        // in November, MONTH 10, for January: DAY 395; or for February
        int[][] dayAndEnd = {{304, 395}, {306, 395}, {307, 423}, {334, 423}, {337, 454}, {364, 454}, {365, 454},
            {367, 454}, {368, 484}, {1703, 1793}, {1705, 1793}, {1675, 1793}, {1702, 1793}, {1674, 1763}};
        for (int[] pair : dayAndEnd) {
            Check.eq(roll.notice(0, pair[0]), pair[1]);
            roll.undo();
        }
        Check.eq(roll.notice(0, 1706), -9);
    }

    private static void optionTillTheEnd() {
        Check.part("OPTION: TO becomes later, 1824 at most");
        int[][] daysAndTo = {{1, 1001}, {823, 1823}, {824, 1824}, {825, 1824}, {1000, 1824}};
        for (int[] pair : daysAndTo) {
            Rentroll roll = lease(0, 1000);
            Check.eq(roll.option(0, pair[0]), pair[1]);
            Check.eq(roll.ofLease(0, 1), pair[1]);
            Check.eq(roll.ofLease(0, 2), pair[1]);
            Check.eq(roll.tenant(0, pair[1]), 0);
        }
        Rentroll last = lease(0, 1824);
        Check.eq(last.option(0, 1), 1824);
        Check.eq(last.count(7), 3);
        // up to the day ahead of the next LEASE
        Rentroll next = lease(0, 1000);
        next.lease(0, 1002, 1002, 1, 5, 0);
        Check.eq(next.option(0, 1), 1001);
        Check.eq(next.option(0, 1), -9);
    }

    private static void optionOfOneThatWasPutOut() {
        Check.part("OPTION: the TERMINATION still tells LAST");
        Rentroll roll = lease(0, 500);
        roll.terminate(0, 33);
        Check.eq(roll.option(0, 10), 510);
        Check.eq(roll.ofLease(0, 2), 62);
        Check.eq(roll.out(0), 62);
        Check.eq(roll.option(0, 10), 72);
        Check.eq(roll.ofLease(0, 2), 62);
    }

    private static void baseIsTheMonthOfFrom() {
        Check.part("BASE: the MONTH of FROM at first");
        int[][] fromAndBase = {{0, 0}, {30, 0}, {31, 1}, {58, 1}, {59, 2}, {364, 11}, {365, 12}, {395, 12}, {396, 13},
            {1793, 58}, {1794, 59}, {1824, 59}};
        for (int[] pair : fromAndBase) {
            Check.eq(lease(pair[0], -1).ofLease(0, 9), pair[1]);
        }
    }

    /** What adjust() answers for a RENT, a bar, a top, the INDEX of the BASE and that of MONTH 5. */
    private static int adjusted(int rent, int bar, int top, int baseValue, int value) {
        Rentroll roll = new Rentroll();
        roll.flat(0, 50);
        roll.lease(0, 0, -1, 2, rent, 0);
        roll.clause(0, bar, top);
        roll.index(0, baseValue);
        roll.index(5, value);
        int answer = roll.adjust(0, 5);
        Check.eq(roll.rentOf(0, 151), answer == -9 ? rent : answer);
        Check.eq(roll.rentOf(0, 150), rent);
        Check.eq(roll.ofLease(0, 9), answer == -9 ? 0 : 5);
        return answer;
    }

    private static void barOrMore() {
        Check.part("ADJUST: by bar percent or more (value * 100 >= base value * (100 + bar))");
        Check.eq(adjusted(1000, 5, 50, 100, 104), -9);
        Check.eq(adjusted(1000, 5, 50, 100, 105), 1050);
        Check.eq(adjusted(1000, 5, 50, 100, 106), 1060);
        // 10600 is less than 101 * 105 = 10605
        Check.eq(adjusted(1000, 5, 50, 101, 106), -9);
        Check.eq(adjusted(1000, 5, 50, 101, 107), 1059);
        Check.eq(adjusted(1000, 50, 50, 100, 149), -9);
        Check.eq(adjusted(1000, 50, 50, 100, 150), 1500);
        Check.eq(adjusted(1000, 50, 50, 6666, 9999), 1500);
        Check.eq(adjusted(1000, 50, 50, 6667, 10000), -9);
        Check.eq(adjusted(1000, 1, 50, 9901, 10000), -9);
        Check.eq(adjusted(1000, 1, 50, 9900, 9999), 1010);
    }

    private static void aboveTheBase() {
        Check.part("ADJUST: and value above base value");
        Check.eq(adjusted(1000, 0, 50, 100, 99), -9);
        Check.eq(adjusted(1000, 0, 50, 100, 100), -9);
        Check.eq(adjusted(1000, 0, 50, 100, 101), 1010);
        Check.eq(adjusted(1000, 0, 50, 1, 1), -9);
        Check.eq(adjusted(1000, 0, 50, 1, 2), 1500);
        Check.eq(adjusted(1000, 0, 50, 10000, 10000), -9);
        Check.eq(adjusted(1000, 0, 50, 9999, 10000), 1000);
    }

    private static void adjustedIsRounded() {
        Check.part("ADJUST: rounded, halves go up");
        Check.eq(adjusted(50, 0, 50, 100, 101), 51);
        Check.eq(adjusted(49, 0, 50, 100, 101), 49);
        Check.eq(adjusted(150, 0, 50, 100, 101), 152);
        Check.eq(adjusted(1, 0, 50, 100, 149), 1);
        // 333.67 and 333.33
        Check.eq(adjusted(1001, 0, 50, 3000, 3001), 1001);
        Check.eq(adjusted(1500, 0, 50, 3000, 3001), 1501);
        Check.eq(adjusted(1499, 0, 50, 3000, 3001), 1499);
    }

    private static void topIsCut() {
        Check.part("ADJUST: at most the RENT * (100 + top) / 100, cut");
        Check.eq(adjusted(333, 0, 20, 100, 119), 396);
        Check.eq(adjusted(333, 0, 20, 100, 120), 399);
        Check.eq(adjusted(333, 0, 20, 100, 10000), 399);
        Check.eq(adjusted(100, 0, 20, 100, 120), 120);
        Check.eq(adjusted(100, 0, 20, 100, 121), 120);
        Check.eq(adjusted(3, 0, 50, 2, 3), 4);
        Check.eq(adjusted(1, 0, 50, 1, 10000), 1);
        Check.eq(adjusted(2, 0, 50, 1, 10000), 3);
        Check.eq(adjusted(777, 0, 0, 1, 10000), 777);
    }

    private static void adjustedAtMost100000() {
        Check.part("ADJUST: a RENT is 100000 at most, that comes then");
        Check.eq(adjusted(66666, 0, 50, 100, 200), 99999);
        Check.eq(adjusted(66667, 0, 50, 100, 200), 100000);
        Check.eq(adjusted(66668, 0, 50, 100, 200), 100000);
        Check.eq(adjusted(90000, 0, 50, 90000 / 10, 10000), 100000);
        Check.eq(adjusted(99999, 0, 50, 100, 101), 100000);
        Check.eq(adjusted(100000, 0, 50, 1, 10000), 100000);
        Check.eq(adjusted(99000, 0, 1, 100, 101), 99990);
    }

    private static void adjustTakesTheDayAhead() {
        Check.part("ADJUST: the RENT of the day ahead of FIRST; from FIRST on (a STEP)");
        Rentroll roll = lease(0, -1);
        roll.clause(0, 0, 50);
        roll.index(0, 100);
        roll.index(5, 110);
        roll.step(0, 149, 500);
        roll.step(0, 150, 600);
        roll.step(0, 151, 700);
        roll.step(0, 152, 800);
        Check.eq(roll.adjust(0, 5), 660);
        int[] rents = {500, 600, 660, 800};
        for (int day = 149; day <= 152; day++) {
            Check.eq(roll.rentOf(0, day), rents[day - 149]);
        }
        Check.eq(roll.ofLease(0, 6), 5);
    }

    private static void adjustMovesTheBase() {
        Check.part("ADJUST: the MONTH is the BASE; the last MONTH is 59");
        Rentroll roll = lease(0, -1);
        roll.clause(0, 0, 50);
        roll.index(0, 100);
        roll.index(58, 110);
        roll.index(59, 121);
        Check.eq(roll.adjust(0, 58), 330);
        Check.eq(roll.ofLease(0, 9), 58);
        Check.eq(roll.adjust(0, 59), 363);
        Check.eq(roll.ofLease(0, 9), 59);
        Check.eq(roll.rentOf(0, 1794), 363);
        Check.eq(roll.adjust(0, 59), -9);
        // the BASE of one that begins in MONTH 59 has no MONTH behind it
        Rentroll last = lease(1794, -1);
        last.clause(0, 0, 50);
        last.index(59, 100);
        Check.eq(last.adjust(0, 59), -9);
        // a BASE that is told anew counts as it is told now
        roll.undo();
        roll.index(58, 120);
        Check.eq(roll.adjust(0, 59), 333);
    }

    /** A FLAT with an AREA of 1 and a RENT of 100, so that each ROW is a RENT. */
    private static void middleRow() {
        Check.part("RAISE: the middle one of its ROWS by size, of an even number the smaller one of both");
        Rentroll roll = new Rentroll();
        roll.flat(0, 1);
        roll.lease(0, 0, -1, 2, 100, 0);
        int[] rows = {105, 119, 101, 110, 104, 103, 120, 118, 117};
        int[] raised = {-9, -9, 105, 105, 105, 104, 105, 105, 110};
        for (int at = 0; at < rows.length; at++) {
            roll.compare(0, rows[at]);
            Check.eq(roll.raise(0, 5), raised[at]);
            if (raised[at] != -9) {
                roll.undo();
            }
        }
        // alike ones, and those of other HOUSES
        Rentroll alike = new Rentroll();
        alike.flat(1, 1);
        alike.lease(0, 0, -1, 2, 100, 0);
        for (int coins : new int[] {101, 107, 101, 107, 107}) {
            alike.compare(1, coins);
            alike.compare(0, 120);
            alike.compare(2, 1);
        }
        Check.eq(alike.raise(0, 5), 107);
    }

    private static void areaOnFirst() {
        Check.part("RAISE: times the AREA on FIRST");
        for (int day = 150; day <= 152; day++) {
            Rentroll roll = lease(0, -1);
            roll.flat(0, 50);
            for (int row = 0; row < 3; row++) {
                roll.compare(0, 7);
            }
            roll.shift(0, 1, 5, day);
            Check.eq(roll.raise(0, 5), day <= 151 ? 315 : 350);
        }
    }

    private static int raised(int rent) {
        Rentroll roll = new Rentroll();
        roll.flat(0, 500);
        roll.lease(0, 0, -1, 2, rent, 0);
        for (int row = 0; row < 3; row++) {
            roll.compare(0, 1000);
        }
        return roll.raise(0, 5);
    }

    private static void raisedAtMostByAFifth() {
        Check.part("RAISE: at most 120 / 100, cut");
        Check.eq(raised(1), -9);
        Check.eq(raised(4), -9);
        Check.eq(raised(5), 6);
        Check.eq(raised(9), 10);
        Check.eq(raised(10), 12);
        Check.eq(raised(99), 118);
        Check.eq(raised(100), 120);
        Check.eq(raised(104), 124);
    }

    private static void raisedByTheDay1095Ahead() {
        Check.part("RAISE: the RENT 1095 days ahead of FIRST");
        // FIRST of MONTH 37 is 1126: DAY 31
        Rentroll roll = new Rentroll();
        roll.flat(0, 500);
        roll.lease(0, 30, -1, 2, 100, 0);
        roll.step(0, 31, 200);
        roll.step(0, 32, 400);
        roll.step(0, 1125, 10);
        for (int row = 0; row < 3; row++) {
            roll.compare(0, 1000);
        }
        Check.eq(roll.raise(0, 37), 240);
        roll.undo();
        roll.step(0, 31, 8);
        Check.eq(roll.raise(0, 37), -9);
        roll.step(0, 31, 9);
        Check.eq(roll.raise(0, 37), -9);
        roll.step(0, 1125, 9);
        Check.eq(roll.raise(0, 37), 10);
    }

    private static void raisedByFromIfThatIsLater() {
        Check.part("RAISE: or on FROM, if that is later");
        for (int from = 30; from <= 33; from++) {
            Rentroll roll = new Rentroll();
            roll.flat(0, 500);
            roll.lease(0, from, -1, 2, 100, 0);
            roll.step(0, from + 1, 200);
            roll.step(0, 1125, 10);
            for (int row = 0; row < 3; row++) {
                roll.compare(0, 1000);
            }
            Check.eq(roll.raise(0, 37), from == 30 ? 240 : 120);
        }
        // far ahead of that, too
        Rentroll roll = new Rentroll();
        roll.flat(0, 500);
        roll.lease(0, 30, -1, 2, 100, 0);
        roll.step(0, 31, 50);
        for (int row = 0; row < 3; row++) {
            roll.compare(0, 1000);
        }
        Check.eq(roll.raise(0, 2), 120);
    }

    private static void raisedAtMost100000() {
        Check.part("RAISE: a RENT is 100000 at most, also by a raise");
        Check.eq(raised(83332), 99998);
        Check.eq(raised(83333), 99999);
        Check.eq(raised(83334), 100000);
        Check.eq(raised(83335), 100000);
        Check.eq(raised(99999), 100000);
        Check.eq(raised(100000), -9);
    }

    private static void raisedMoreThanTheDayAhead() {
        Check.part("RAISE: if it is more than the RENT of the day ahead");
        int[][] rentAndAnswer = {{349, 350}, {350, -9}, {351, -9}};
        for (int[] pair : rentAndAnswer) {
            Rentroll roll = lease(0, -1);
            for (int row = 0; row < 3; row++) {
                roll.compare(0, 7);
            }
            roll.step(0, 149, 1);
            roll.step(0, 150, pair[0]);
            roll.step(0, 151, 700);
            roll.step(0, 152, 800);
            Check.eq(roll.raise(0, 5), pair[1]);
            Check.eq(roll.rentOf(0, 150), pair[0]);
            Check.eq(roll.rentOf(0, 151), pair[1] == -9 ? 700 : 350);
            Check.eq(roll.rentOf(0, 152), 800);
            Check.eq(roll.ofLease(0, 6), 5);
            Check.eq(roll.ofLease(0, 9), 0);
        }
    }
}

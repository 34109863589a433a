/** "Edges of days and amounts" of the section "Costs", sentence by sentence. */
public final class EdgesOfCostsTest {
    public static void main(String[] args) {
        readOnAheadAndBehind();
        readBetweenIsCut();
        readOnOneDay();
        readingThatThereIsIsGone();
        laidIsCut();
        ownerHasWhatIsNotLaid();
        billOfOneDay();
        daysOfTheSpan();
        areaThatChangesInTheSpan();
        headsThatChangeInTheSpan();
        headsOfEachLease();
        headsAreZeroWithoutLease();
        flatsCountOne();
        lastDayOfATerminatedOne();
        runsAreCutOneByOne();
        sameWeightsAreOneRun();
        runsOfEachFlat();
        meterOfTheNextDay();
        meterOfTheLastDay();
        meterIsCutBehindSixDigits();
        ownersMetersTogether();
        othersHousesDoNotCount();
        halfOfMixedIsCut();
        leftCoinsByParts();
        leftCoinsIfAlike();
        leftCoinsNotForNothing();
        exactShareHasSixDigits();
        settledIfNotZero();
        settledAboveAndBelowZero();
        advancesOfTheYear();
        billsOfTheYear();
        settledLessWhatWasTold();
        settledByWhatWasToldAhead();
        settledOnFirstAndLastDay();
        ownersYear();
        ownersYearGoesByLast();
        Check.end("EdgesOfCostsTest");
    }

    /** Flat 0 with an AREA of 1 and a LEASE from 40 to 100. */
    private static Rentroll span() {
        Rentroll roll = new Rentroll();
        roll.flat(0, 1);
        roll.lease(0, 40, 100, 2, 300, 0);
        return roll;
    }

    private static void readOnAheadAndBehind() {
        Check.part("READ on a DAY: the value there; ahead of the first one that, behind the last one that");
        Rentroll roll = span();
        roll.read(0, 10, 100);
        roll.read(0, 20, 200);
        int[] days = {0, 9, 10, 11, 19, 20, 21, 1824};
        int[] values = {100, 100, 100, 110, 190, 200, 200, 200};
        for (int at = 0; at < days.length; at++) {
            Check.eq(roll.reading(0, days[at]), values[at]);
        }
    }

    private static void readBetweenIsCut() {
        Check.part("READ between two: the earlier one and its part, by days, of what is more, cut");
        Rentroll roll = span();
        roll.read(0, 10, 100);
        roll.read(0, 13, 102);
        roll.read(0, 16, 102);
        roll.read(0, 20, 103);
        int[] values = {100, 100, 101, 102, 102, 102, 102, 102, 102, 102, 103};
        for (int day = 10; day <= 20; day++) {
            Check.eq(roll.reading(0, day), values[day - 10]);
        }
        Rentroll all = span();
        all.read(0, 0, 0);
        all.read(0, 1824, 100000);
        int[][] dayAndValue = {{0, 0}, {1, 54}, {912, 50000}, {911, 49945}, {1823, 99945}, {1824, 100000}};
        for (int[] pair : dayAndValue) {
            Check.eq(all.reading(0, pair[0]), pair[1]);
        }
    }

    private static void readOnOneDay() {
        Check.part("READ with one READING: on the first DAY, on the last one");
        for (int day : new int[] {0, 1824}) {
            Rentroll roll = span();
            Check.eq(roll.read(0, day, 77), 1);
            Check.eq(roll.reading(0, 0), 77);
            Check.eq(roll.reading(0, 912), 77);
            Check.eq(roll.reading(0, 1824), 77);
        }
    }

    private static void readingThatThereIsIsGone() {
        Check.part("promise 23: a READING that there is on that DAY is gone; later ones are no less");
        Rentroll roll = span();
        Check.eq(roll.read(0, 10, 100), 1);
        Check.eq(roll.read(0, 10, 50), 1);
        Check.eq(roll.reading(0, 10), 50);
        Check.eq(roll.read(0, 11, 49), -9);
        Check.eq(roll.read(0, 11, 50), 2);
        Check.eq(roll.read(0, 9, 51), -9);
        Check.eq(roll.read(0, 9, 50), 3);
        Check.eq(roll.read(0, 10, 51), -9);
        Check.eq(roll.read(0, 10, 49), -9);
        Check.eq(roll.read(0, 11, 60), 3);
        Check.eq(roll.read(0, 10, 60), 3);
        Check.eq(roll.read(0, 9, 0), 3);
        Check.eq(roll.undo(), 8);
        Check.eq(roll.reading(0, 9), 50);
        // a later one on DAY 1824, and one that has more behind it
        Rentroll later = span();
        later.read(0, 1824, 50);
        Check.eq(later.read(0, 1823, 51), -9);
        Check.eq(later.read(0, 0, 51), -9);
        Check.eq(later.read(0, 1823, 50), 2);
        Check.eq(later.read(0, 1824, 90), 2);
        Check.eq(later.read(0, 0, 60), -9);
        // an earlier one on DAY 0, and one that has less ahead of it
        Rentroll earlier = span();
        earlier.read(0, 0, 50);
        Check.eq(earlier.read(0, 1, 49), -9);
        Check.eq(earlier.read(0, 1, 60), 2);
        Check.eq(earlier.read(0, 2, 55), -9);
        Check.eq(earlier.read(0, 1824, 59), -9);
        Check.eq(earlier.read(0, 1824, 60), 3);
    }

    private static void laidIsCut() {
        Check.part("LAID COINS: coins * LAID / 100, cut");
        int[][] coinsLaidAndShare = {{1, 99, 0}, {1, 100, 1}, {3, 33, 0}, {3, 34, 1}, {199, 50, 99}, {200, 50, 100},
            {99, 1, 0}, {100, 1, 1}, {100000, 100, 100000}, {100000, 1, 1000}, {99999, 99, 98999}};
        for (int[] a : coinsLaidAndShare) {
            for (int key = 0; key <= 2; key++) {
                Rentroll roll = span();
                roll.bill(0, key, 40, 100, a[0], a[1]);
                Check.eq(roll.share(0, 0), a[2]);
                Check.eq(roll.share(0, -1), a[0] - a[2]);
                Check.eq(roll.exactShare(0, 0), a[2] + ".000000");
                Check.eq(roll.exactShare(0, -1), "0.000000");
            }
        }
    }

    private static void ownerHasWhatIsNotLaid() {
        Check.part("SHARES: the OWNER's coins that are not LAID come to his SHARE");
        Rentroll roll = span();
        roll.flat(0, 3);
        roll.bill(0, 0, 40, 100, 41, 99);
        // LAID are 40: 10 and 30
        Check.eq(roll.exactShare(0, -1), "30.000000");
        Check.eq(roll.share(0, -1), 31);
        Check.eq(roll.share(0, 0), 10);
        Check.eq(roll.owner(0, 0, 5), 31);
        Check.eq(roll.owner(0, 0, 4), 10);
    }

    private static void billOfOneDay() {
        Check.part("BILLS of one day: ahead of FROM, on FROM, on LAST, behind it");
        int[] days = {0, 39, 40, 100, 101, 1824};
        for (int key = 0; key <= 2; key++) {
            Rentroll roll = span();
            for (int at = 0; at < days.length; at++) {
                roll.bill(0, key, days[at], days[at], 7, 100);
                boolean isIts = days[at] >= 40 && days[at] <= 100;
                Check.eq(roll.share(at, 0), isIts ? 7 : 0);
                Check.eq(roll.share(at, -1), isIts ? 0 : 7);
            }
        }
    }

    private static void daysOfTheSpan() {
        Check.part("KEYS: for each day of the span, both ends with it");
        // by days of the span, days of the LEASE in it, all coins of it
        int[][] spans = {{39, 40, 1, 2}, {40, 41, 2, 2}, {99, 101, 2, 3}, {100, 101, 1, 2}, {0, 40, 1, 41},
            {39, 101, 61, 63}, {100, 1824, 1, 1725}, {0, 1824, 61, 1825}};
        for (int key = 0; key <= 2; key += 2) {
            Rentroll roll = span();
            for (int at = 0; at < spans.length; at++) {
                int[] s = spans[at];
                roll.bill(0, key, s[0], s[1], s[3], 100);
                Check.eq(roll.exactShare(at, 0), s[2] + ".000000");
                Check.eq(roll.share(at, 0), s[2]);
                Check.eq(roll.share(at, -1), s[3] - s[2]);
            }
        }
    }

    private static void areaThatChangesInTheSpan() {
        Check.part("KEY 0: its AREA that day");
        // 10 and 30 of AREA; from a DAY on 20 and 20; a BILL of DAYS 50 to 53, of 40 coins a day
        int[][] dayAndShare = {{0, 80}, {50, 80}, {51, 70}, {53, 50}, {54, 40}, {1824, 40}};
        for (int[] pair : dayAndShare) {
            Rentroll roll = new Rentroll();
            roll.flat(0, 10);
            roll.flat(1, 500);
            roll.flat(0, 30);
            roll.lease(0, 0, -1, 1, 5, 0);
            roll.shift(2, 0, 10, pair[0]);
            roll.bill(0, 0, 50, 53, 160, 100);
            Check.eq(roll.exactShare(0, 0), pair[1] + ".000000");
            Check.eq(roll.exactShare(0, -1), 160 - pair[1] + ".000000");
        }
    }

    private static void headsThatChangeInTheSpan() {
        Check.part("KEY 1: its HEADS that day");
        // 1 and 3 HEADS; from a DAY on 5 and 3: 10 coins of 40 a day, then 25
        int[][] dayAndShare = {{40, 100}, {50, 100}, {51, 85}, {53, 55}, {54, 40}, {100, 40}};
        for (int[] pair : dayAndShare) {
            Rentroll roll = new Rentroll();
            roll.flat(0, 10);
            roll.flat(0, 30);
            roll.lease(0, 40, 100, 1, 5, 0);
            roll.lease(1, 0, -1, 3, 5, 0);
            roll.heads(0, pair[0], 5);
            roll.bill(0, 1, 50, 53, 160, 100);
            Check.eq(roll.exactShare(0, 0), pair[1] + ".000000");
            Check.eq(roll.exactShare(0, 1), 160 - pair[1] + ".000000");
        }
    }

    private static void headsOfEachLease() {
        Check.part("KEY 1: HEADS of one LEASE change, those of the others stay");
        for (int changing = 0; changing < 3; changing++) {
            Rentroll roll = new Rentroll();
            for (int flat = 0; flat < 3; flat++) {
                roll.flat(0, 10);
                roll.lease(flat, 0, -1, 1, 5, 0);
            }
            roll.heads(changing, 52, 2);
            roll.bill(0, 1, 50, 53, 48, 100);
            // two days of 4 each, then two of 6, 3 and 3
            for (int lease = 0; lease < 3; lease++) {
                Check.eq(roll.exactShare(0, lease), lease == changing ? "20.000000" : "14.000000");
            }
        }
    }

    private static void headsAreZeroWithoutLease() {
        Check.part("KEY 1: HEADS are 0 without a LEASE");
        Rentroll roll = new Rentroll();
        roll.flat(0, 10);
        roll.flat(0, 30);
        roll.lease(0, 40, 100, 6, 5, 0);
        roll.lease(1, 100, 200, 2, 5, 0);
        roll.bill(0, 1, 99, 101, 300, 100);
        // DAY 99 has 6 HEADS of LEASE 0, DAY 100 six and two, DAY 101 two
        Check.eq(roll.exactShare(0, 0), "175.000000");
        Check.eq(roll.exactShare(0, 1), "125.000000");
        Check.eq(roll.exactShare(0, -1), "0.000000");
    }

    private static void flatsCountOne() {
        Check.part("KEY 2: 1 for each FLAT of the HOUSE, borne by the OWNER without a LEASE");
        Rentroll roll = new Rentroll();
        roll.flat(0, 1);
        roll.flat(1, 400);
        roll.flat(0, 500);
        roll.lease(0, 40, 100, 6, 5, 0);
        roll.lease(1, 0, -1, 6, 5, 0);
        roll.bill(0, 2, 99, 102, 80, 100);
        Check.eq(roll.exactShare(0, 0), "20.000000");
        Check.eq(roll.exactShare(0, 1), "0.000000");
        Check.eq(roll.exactShare(0, -1), "60.000000");
        // a FLAT that is told later is there on all DAYS
        roll.flat(0, 5);
        roll.flat(0, 5);
        Check.eq(roll.exactShare(0, 0), "10.000000");
        Check.eq(roll.exactShare(0, -1), "70.000000");
    }

    private static void lastDayOfATerminatedOne() {
        Check.part("KEYS: borne by who has a LEASE there that day, by LAST");
        Rentroll roll = new Rentroll();
        roll.flat(0, 10);
        roll.lease(0, 0, -1, 6, 300, 0);
        roll.terminate(0, 33);
        for (int day = 61; day <= 64; day++) {
            roll.bill(0, day % 3, day, day, 7, 100);
            Check.eq(roll.share(day - 61, 0), day <= 62 ? 7 : 0);
        }
        roll.pay(0, 62, 600, -1);
        Check.eq(roll.share(3, 0), 7);
        roll.undo();
        Check.eq(roll.share(3, 0), 0);
    }

    private static void runsAreCutOneByOne() {
        Check.part("RUN: the part of one weight is reckoned at once, cut behind six digits");
        // a coin for 6 days and three FLATS: 0.333333 each if there is one RUN
        Rentroll roll = new Rentroll();
        for (int flat = 0; flat < 3; flat++) {
            roll.flat(0, 10);
        }
        roll.lease(0, 0, -1, 1, 5, 0);
        roll.lease(1, 0, -1, 1, 5, 0);
        roll.bill(0, 2, 10, 15, 1, 100);
        Check.eq(roll.exactShare(0, 0), "0.333333");
        Check.eq(roll.exactShare(0, -1), "0.333333");
        // another BEARER on its last day: 5 / 18 and 1 / 18, each cut
        roll.lease(2, 15, 15, 1, 5, 0);
        Check.eq(roll.exactShare(0, 0), "0.333332");
        Check.eq(roll.exactShare(0, 2), "0.055555");
        Check.eq(roll.exactShare(0, -1), "0.277777");
        roll.undo();
        // on its first day, and the day behind the span, which parts nothing
        roll.lease(2, 10, 10, 1, 5, 0);
        Check.eq(roll.exactShare(0, 0), "0.333332");
        roll.undo();
        roll.lease(2, 16, 16, 1, 5, 0);
        roll.lease(2, 9, 9, 1, 5, 0);
        Check.eq(roll.exactShare(0, 0), "0.333333");
    }

    private static void sameWeightsAreOneRun() {
        Check.part("RUN: days one after the other on which all FLATS have the same weights and BEARERS");
        Rentroll roll = new Rentroll();
        for (int flat = 0; flat < 3; flat++) {
            roll.flat(0, 10);
            roll.lease(flat, 0, -1, 1, 5, 0);
        }
        roll.bill(0, 1, 10, 15, 1, 100);
        Check.eq(roll.exactShare(0, 0), "0.333333");
        // told, but alike
        roll.heads(0, 13, 1);
        Check.eq(roll.exactShare(0, 0), "0.333333");
        // 1 and 2 HEADS by turns: 2 days of 1 / 3, one of 2 / 4, 3 of 1 / 3: 0.111111, 0.083333, 0.166666
        roll.heads(0, 12, 2);
        Check.eq(roll.exactShare(0, 0), "0.361110");
        Check.eq(roll.exactShare(0, 1), "0.319443");
        // a weight that goes and comes again begins a RUN of its own: 0.055555 and 0.055555 are not 0.111111
        roll.heads(0, 11, 2);
        roll.heads(0, 12, 1);
        Check.eq(roll.exactShare(0, 1), "0.319443");
        roll.undo();
        roll.undo();
        roll.heads(0, 12, 1);
        Check.eq(roll.exactShare(0, 0), "0.333333");
    }

    private static void runsOfEachFlat() {
        Check.part("RUN: each of eight FLATS parts it");
        for (int flat = 0; flat < 8; flat++) {
            Rentroll roll = new Rentroll();
            for (int other = 0; other < 8; other++) {
                roll.flat(0, 10);
            }
            roll.lease(flat, 12, 13, 1, 5, 0);
            roll.bill(0, 2, 10, 15, 48, 100);
            Check.eq(roll.exactShare(0, 0), "2.000000");
            Check.eq(roll.exactShare(0, -1), "46.000000");
        }
    }

    private static void meterOfTheNextDay() {
        Check.part("KEY 3: READ on the next day less READ on that day");
        Rentroll roll = span();
        roll.read(0, 0, 0);
        roll.read(0, 1824, 1824);
        int[][] spans = {{39, 39, 0}, {40, 40, 9}, {100, 100, 9}, {101, 101, 0}, {38, 40, 3}, {39, 101, 8}};
        for (int at = 0; at < spans.length; at++) {
            roll.bill(0, 3, spans[at][0], spans[at][1], 9, 100);
            Check.eq(roll.share(at, 0), at == 5 ? 9 : spans[at][2]);
        }
        // 61 of 63 days are 8.71
        Check.eq(roll.exactShare(5, 0), "8.714285");
        Check.eq(roll.exactShare(5, -1), "0.285714");
        // all of it on the last day of the LEASE
        Rentroll late = span();
        late.read(0, 100, 0);
        late.read(0, 101, 5);
        late.bill(0, 3, 0, 1824, 9, 100);
        Check.eq(late.share(0, 0), 9);
        late.bill(0, 3, 0, 99, 9, 100);
        Check.eq(late.share(1, -1), 9);
        late.bill(0, 3, 0, 100, 9, 100);
        Check.eq(late.share(2, 0), 9);
        late.bill(0, 3, 101, 1824, 9, 100);
        Check.eq(late.share(3, -1), 9);
    }

    private static void meterOfTheLastDay() {
        Check.part("KEY 3: of DAY 1824: 0");
        Rentroll roll = new Rentroll();
        roll.flat(0, 1);
        roll.lease(0, 1823, 1823, 2, 300, 0);
        roll.lease(0, 1824, 1824, 2, 300, 0);
        roll.read(0, 1823, 0);
        roll.read(0, 1824, 5);
        roll.bill(0, 3, 1823, 1824, 9, 100);
        Check.eq(roll.share(0, 0), 9);
        Check.eq(roll.share(0, 1), 0);
        roll.bill(0, 3, 1824, 1824, 9, 100);
        Check.eq(roll.share(1, 1), 0);
        Check.eq(roll.share(1, -1), 9);
        Check.yes(roll.isSound());
    }

    private static void meterIsCutBehindSixDigits() {
        Check.part("KEY 3: LAID COINS times weight by all weights, cut behind six digits");
        Rentroll roll = new Rentroll();
        for (int flat = 0; flat < 3; flat++) {
            roll.flat(0, 1);
            roll.lease(flat, 0, -1, 1, 5, 0);
            roll.read(flat, 0, 0);
            roll.read(flat, 10, flat == 0 ? 1 : 3);
        }
        roll.bill(0, 3, 0, 9, 100, 100);
        Check.eq(roll.exactShare(0, 0), "14.285714");
        Check.eq(roll.exactShare(0, 1), "42.857142");
        Check.eq(roll.exactShare(0, 2), "42.857142");
        Check.eq(roll.share(0, 0), 14);
        Check.eq(roll.share(0, 1), 43);
        Check.eq(roll.share(0, 2), 43);
        Check.eq(roll.share(0, -1), 0);
        // the greatest weights there can be
        Rentroll great = new Rentroll();
        for (int flat = 0; flat < 8; flat++) {
            great.flat(0, 1);
            great.read(flat, 0, 0);
            great.read(flat, 1824, 100000);
        }
        great.lease(7, 0, -1, 1, 5, 0);
        great.bill(0, 3, 0, 1824, 100000, 100);
        Check.eq(great.exactShare(0, 0), "12500.000000");
        Check.eq(great.exactShare(0, -1), "87500.000000");
    }

    private static void ownersMetersTogether() {
        Check.part("KEY 3: a BEARER's weight is the sum of his");
        Rentroll roll = new Rentroll();
        for (int flat = 0; flat < 3; flat++) {
            roll.flat(0, 1);
            roll.read(flat, 0, 0);
            roll.read(flat, 10, 1);
        }
        roll.lease(0, 0, -1, 1, 5, 0);
        roll.bill(0, 3, 0, 9, 1, 100);
        Check.eq(roll.exactShare(0, 0), "0.333333");
        Check.eq(roll.exactShare(0, -1), "0.666666");
    }

    private static void othersHousesDoNotCount() {
        Check.part("KEYS: by the weights of the FLATS of the HOUSE, for each KEY");
        Rentroll roll = new Rentroll();
        int[] houses = {0, 1, 0, 2};
        for (int flat = 0; flat < 4; flat++) {
            roll.flat(houses[flat], 10);
            roll.lease(flat, 0, -1, 1, 5, 0);
            roll.read(flat, 0, 0);
            roll.read(flat, 10, 10);
        }
        for (int key = 0; key <= 4; key++) {
            roll.bill(0, key, 0, 9, 100, 100);
            roll.bill(1, key, 0, 9, 100, 100);
            String[] exact = {"50.000000", "0.000000", "50.000000", "0.000000"};
            for (int lease = 0; lease < 4; lease++) {
                Check.eq(roll.exactShare(2 * key, lease), exact[lease]);
                Check.eq(roll.exactShare(2 * key + 1, lease), lease == 1 ? "100.000000" : "0.000000");
            }
        }
        // a FLAT without a LEASE of another HOUSE is not the OWNER's part
        roll.flat(1, 500);
        roll.read(4, 0, 0);
        roll.read(4, 10, 90);
        Check.eq(roll.exactShare(6, -1), "0.000000");
        Check.eq(roll.exactShare(7, -1), "90.000000");
    }

    private static void halfOfMixedIsCut() {
        Check.part("KEY 4: half of the LAID COINS (cut) as KEY 3, the others as KEY 0");
        // by the meter all is LEASE 0's, by AREA all is the OWNER's but a tenth
        int[][] coinsAndExact = {{1, 0, 1}, {2, 1, 1}, {3, 1, 2}, {101, 50, 51}, {100000, 50000, 50000}};
        for (int[] a : coinsAndExact) {
            Rentroll roll = new Rentroll();
            roll.flat(0, 10);
            roll.flat(0, 90);
            roll.lease(0, 0, -1, 1, 5, 0);
            roll.read(0, 0, 0);
            roll.read(0, 10, 1);
            roll.bill(0, 4, 0, 9, a[0], 100);
            int tenths = 10 * a[1] + a[2];
            Check.eq(roll.exactShare(0, 0), tenths / 10 + "." + tenths % 10 + "00000");
            int others = 9 * a[2];
            Check.eq(roll.exactShare(0, -1), others / 10 + "." + others % 10 + "00000");
        }
        // what is cut of both is cut each on its own: 1 / 3 and 2 / 3 of a coin
        Rentroll thirds = new Rentroll();
        for (int flat = 0; flat < 3; flat++) {
            thirds.flat(0, 10);
            thirds.lease(flat, 0, -1, 1, 5, 0);
            thirds.read(flat, 0, 0);
            thirds.read(flat, 10, 1);
        }
        thirds.bill(0, 4, 0, 9, 2, 100);
        Check.eq(thirds.exactShare(0, 0), "0.666666");
        Check.eq(thirds.share(0, 0) + thirds.share(0, 1), 2);
        Check.eq(thirds.share(0, 2), 0);
    }

    private static void leftCoinsByParts() {
        Check.part("SHARES: a coin each to those with the greatest parts behind the point");
        // AREAS of 10, 25, 65: of 9 coins 0.9, 2.25, 5.85; of 3 coins 0.3, 0.75, 1.95
        Rentroll roll = new Rentroll();
        int[] areas = {10, 25, 65};
        for (int flat = 0; flat < 3; flat++) {
            roll.flat(0, areas[flat]);
        }
        roll.lease(0, 0, -1, 1, 5, 0);
        roll.lease(2, 0, -1, 1, 5, 0);
        int[][] coinsAndShares = {{9, 1, 6, 2}, {3, 0, 2, 1}, {1, 0, 1, 0}, {2, 0, 1, 1}, {10, 1, 7, 2},
            {4, 0, 3, 1}, {100, 10, 65, 25}};
        for (int at = 0; at < coinsAndShares.length; at++) {
            int[] a = coinsAndShares[at];
            roll.bill(0, 0, 0, 9, a[0], 100);
            Check.eq(roll.share(at, 0), a[1]);
            Check.eq(roll.share(at, 1), a[2]);
            Check.eq(roll.share(at, -1), a[3]);
        }
    }

    private static void leftCoinsIfAlike() {
        Check.part("SHARES: LEASES by number, the OWNER last, if alike");
        Rentroll roll = new Rentroll();
        for (int flat = 0; flat < 4; flat++) {
            roll.flat(0, 10);
        }
        // LEASE 0 has the last FLAT; flat 3 is the OWNER's
        roll.lease(2, 0, -1, 1, 5, 0);
        roll.lease(0, 0, -1, 1, 5, 0);
        roll.lease(1, 0, -1, 1, 5, 0);
        int[][] shares = {{1, 0, 0, 0}, {1, 1, 0, 0}, {1, 1, 1, 0}, {1, 1, 1, 1}, {2, 1, 1, 1}};
        for (int coins = 1; coins <= 5; coins++) {
            roll.bill(0, 0, 0, 9, coins, 100);
            for (int lease = 0; lease < 3; lease++) {
                Check.eq(roll.share(coins - 1, lease), shares[coins - 1][lease]);
            }
            Check.eq(roll.share(coins - 1, -1), shares[coins - 1][3]);
        }
        // coins that are not LAID make no difference: of 9 coins 5 are LAID
        roll.bill(0, 0, 0, 9, 9, 60);
        Check.eq(roll.share(5, 0), 2);
        Check.eq(roll.share(5, -1), 1 + 4);
    }

    private static void leftCoinsNotForNothing() {
        Check.part("SHARES: whose EXACT SHARE is 0 gets none");
        Rentroll roll = new Rentroll();
        for (int flat = 0; flat < 4; flat++) {
            roll.flat(0, 10);
        }
        roll.lease(3, 500, -1, 1, 5, 0);
        roll.lease(0, 0, -1, 1, 5, 0);
        roll.lease(1, 0, -1, 1, 5, 0);
        roll.lease(2, 0, -1, 1, 5, 0);
        // three thirds of 100 HEADS' coins: 33.333333 each, LEASE 0 and the OWNER bear nothing
        roll.bill(0, 1, 0, 9, 100, 100);
        int[] shares = {0, 34, 33, 33};
        for (int lease = 0; lease < 4; lease++) {
            Check.eq(roll.share(0, lease), shares[lease]);
        }
        Check.eq(roll.share(0, -1), 0);
        Check.eq(roll.exactShare(0, 0), "0.000000");
        // the smallest EXACT SHARE that is none: a coin by 1825 days and 12 HEADS
        Rentroll small = new Rentroll();
        small.flat(0, 500);
        small.flat(0, 500);
        small.lease(0, 0, 0, 1, 5, 0);
        small.lease(0, 1, -1, 1, 5, 0);
        small.lease(1, 0, -1, 6, 5, 0);
        small.bill(0, 1, 0, 1824, 1, 100);
        Check.eq(small.exactShare(0, 0), "0.000078");
        Check.eq(small.share(0, 0), 0);
        Check.eq(small.share(0, 2), 1);
    }

    private static void exactShareHasSixDigits() {
        Check.part("promise 45: with six digits behind the point");
        Rentroll roll = new Rentroll();
        roll.flat(0, 1);
        roll.flat(0, 7);
        roll.lease(0, 0, -1, 1, 5, 0);
        String[] exact = {"0.125000", "0.250000", "1.000000", "12.500000", "12500.000000"};
        int[] coins = {1, 2, 8, 100, 100000};
        for (int at = 0; at < coins.length; at++) {
            roll.bill(0, 0, 0, 9, coins[at], 100);
            Check.eq(roll.exactShare(at, 0), exact[at]);
        }
        roll.bill(1, 0, 0, 9, 100000, 100);
        Check.eq(roll.exactShare(5, -1), "100000.000000");
        Check.eq(roll.exactShare(5, 0), "0.000000");
        // one day of 1000 in a FLAT with 7 of 8 of AREA
        roll.lease(1, 0, 0, 1, 5, 0);
        roll.bill(0, 0, 0, 999, 1, 100);
        Check.eq(roll.exactShare(6, 1), "0.000875");
        Check.eq(roll.exactShare(6, 0), "0.125000");
        Check.eq(roll.exactShare(6, -1), "0.874125");
    }

    private static void settledIfNotZero() {
        Check.part("SETTLE: if that is not 0, it is a SETTLEMENT");
        // 12 MONTHS of ADVANCES of 10 against SHARES of 119, 120, 121
        for (int coins = 119; coins <= 121; coins++) {
            Rentroll roll = new Rentroll();
            roll.flat(0, 5);
            roll.lease(0, 0, -1, 1, 5, 0);
            roll.advance(0, 10);
            roll.bill(0, 0, 0, 364, coins, 100);
            Check.eq(roll.settle(0, 0, 400), coins == 120 ? 0 : 1);
            Check.eq(roll.settled(0, 0), coins - 120);
            Check.eq(roll.ofLease(0, 11), coins == 120 ? 0 : 1);
            Check.eq(roll.count(7), 5);
            Check.eq(roll.settle(0, 0, 400), 0);
            Check.eq(roll.ofLease(0, 11), coins == 120 ? 0 : 1);
        }
    }

    private static void settledAboveAndBelowZero() {
        Check.part("SETTLEMENTS: above 0 a DEBT, below 0 a PAYMENT, on their DAY");
        for (int coins = 119; coins <= 121; coins += 2) {
            Rentroll roll = new Rentroll();
            roll.flat(0, 5);
            roll.lease(0, 0, 364, 1, 5, 0);
            roll.advance(0, 10);
            roll.bill(0, 0, 0, 364, coins, 100);
            int owed = roll.owed(0, 400, 0);
            roll.settle(0, 0, 400);
            Check.eq(roll.owed(0, 399, 0), owed);
            Check.eq(roll.owed(0, 400, 0), owed + coins - 120);
            Check.eq(roll.owed(0, 1824, 0), owed + coins - 120);
            // it is no PAYMENT by pay()
            Check.eq(roll.count(3), 0);
            Check.eq(roll.owner(0, 1, 2), 0);
            // without DEBTS it is CREDIT
            roll.pay(0, 399, owed, -1);
            Check.eq(roll.owed(0, 400, 1), coins == 119 ? 1 : 0);
        }
    }

    private static void advancesOfTheYear() {
        Check.part("SETTLE: less its DUE of ADVANCES for MONTHS of that YEAR");
        Rentroll roll = new Rentroll();
        roll.flat(0, 5);
        roll.lease(0, 334, 395, 1, 5, 0);
        roll.advance(0, 31);
        Check.eq(roll.settle(0, 0, 5), 1);
        Check.eq(roll.settled(0, 0), -31);
        Check.eq(roll.settled(0, 1), 0);
        Check.eq(roll.settle(0, 1, 5), 1);
        Check.eq(roll.settled(0, 1), -31);
        Check.eq(roll.settle(0, 2, 5), 0);
        Check.eq(roll.owner(0, 0, 1), 31);
        Check.eq(roll.owner(0, 1, 1), 31);
        // the last DAY of a YEAR, the first one of the next
        Rentroll two = new Rentroll();
        two.flat(0, 5);
        two.lease(0, 364, 365, 1, 5, 0);
        two.advance(0, 31);
        Check.eq(two.settle(0, 0, 5), 1);
        Check.eq(two.settled(0, 0), -1);
        Check.eq(two.settle(0, 1, 5), 1);
        Check.eq(two.settled(0, 1), -1);
        // the last YEAR ends with MONTH 59
        Rentroll last = new Rentroll();
        last.flat(0, 5);
        last.lease(0, 1460, -1, 1, 5, 0);
        last.advance(0, 10);
        Check.eq(last.settle(0, 3, 5), 0);
        Check.eq(last.settle(0, 4, 5), 1);
        Check.eq(last.settled(0, 4), -120);
    }

    private static void billsOfTheYear() {
        Check.part("SETTLE: its SHARES of BILLS whose last DAY is in that YEAR");
        int[][] lastDayAndYear = {{0, 0}, {364, 0}, {365, 1}, {729, 1}, {730, 2}, {1094, 2}, {1095, 3}, {1459, 3},
            {1460, 4}, {1824, 4}};
        for (int[] pair : lastDayAndYear) {
            Rentroll roll = new Rentroll();
            roll.flat(0, 5);
            roll.lease(0, 0, -1, 1, 5, 0);
            roll.bill(0, 0, 0, pair[0], 50, 100);
            for (int year = 0; year <= 4; year++) {
                Check.eq(roll.settle(0, year, 5), year == pair[1] ? 1 : 0);
                Check.eq(roll.settled(0, year), year == pair[1] ? 50 : 0);
            }
        }
        // several BILLS are added, those of other HOUSES are not
        Rentroll several = new Rentroll();
        several.flat(0, 5);
        several.flat(1, 5);
        several.lease(0, 0, -1, 1, 5, 0);
        several.lease(1, 0, -1, 1, 5, 0);
        several.bill(0, 0, 0, 364, 50, 100);
        several.bill(1, 0, 0, 364, 70, 100);
        several.bill(0, 2, 5, 5, 7, 100);
        Check.eq(several.settle(0, 0, 5), 1);
        Check.eq(several.settled(0, 0), 57);
        Check.eq(several.settled(1, 0), 0);
        Check.eq(several.settle(1, 0, 5), 1);
        Check.eq(several.settled(1, 0), 70);
    }

    private static void settledLessWhatWasTold() {
        Check.part("SETTLE: less what SETTLEMENTS of that YEAR have told for it");
        Rentroll roll = new Rentroll();
        roll.flat(0, 5);
        roll.lease(0, 0, -1, 1, 5, 0);
        roll.bill(0, 0, 0, 364, 50, 100);
        roll.bill(0, 0, 365, 365, 1, 100);
        Check.eq(roll.settle(0, 0, 400), 1);
        Check.eq(roll.settle(0, 0, 401), 0);
        Check.eq(roll.settle(0, 1, 401), 1);
        roll.bill(0, 0, 0, 364, 1, 100);
        Check.eq(roll.settle(0, 0, 402), 1);
        Check.eq(roll.settled(0, 0), 51);
        Check.eq(roll.settled(0, 1), 1);
        roll.advance(0, 5);
        Check.eq(roll.settle(0, 0, 403), 1);
        Check.eq(roll.settled(0, 0), -9);
        Check.eq(roll.ofLease(0, 11), 4);
        roll.advance(0, 0);
        Check.eq(roll.settle(0, 0, 404), 1);
        Check.eq(roll.settled(0, 0), 51);
        Check.eq(roll.ofLease(0, 11), 5);
        // of each LEASE in each YEAR on its own
        Rentroll each = new Rentroll();
        for (int lease = 0; lease < 5; lease++) {
            each.flat(0, 5);
            each.lease(lease, 0, -1, 1, 5, 0);
            each.bill(0, 2, lease * 365, lease * 365, 50 + 5 * lease, 100);
        }
        // the BILL of YEAR y has 10 + y for each of five LEASES
        for (int year = 0; year <= 4; year++) {
            Check.eq(each.settle(0, year, 5), 5);
            Check.eq(each.settle(0, year, 6), 0);
        }
        for (int lease = 0; lease < 5; lease++) {
            for (int year = 0; year <= 4; year++) {
                Check.eq(each.settled(lease, year), 10 + year);
            }
            Check.eq(each.ofLease(lease, 11), 5);
        }
        each.advance(3, 1);
        Check.eq(each.settle(0, 0, 7), 1);
        Check.eq(each.settled(3, 0), -2);
        Check.eq(each.settled(0, 3), 13);
        Check.eq(each.ofLease(3, 11), 6);
    }

    private static void settledByWhatWasToldAhead() {
        Check.part("SETTLE: for all of them by what was told ahead of this call");
        // LEASE 0's SETTLEMENT cures it, so that it would have heads on DAYS behind 62; LEASE 1's goes by what was
        Rentroll roll = new Rentroll();
        roll.flat(0, 5);
        roll.flat(0, 5);
        roll.lease(0, 0, -1, 1, 5, 0);
        roll.lease(1, 0, -1, 1, 5, 0);
        roll.terminate(0, 33);
        roll.advance(0, 1000);
        roll.bill(0, 1, 61, 64, 400, 100);
        // of 4 days two for both, two for LEASE 1 alone
        Check.eq(roll.exactShare(0, 1), "300.000000");
        roll.pay(0, 33, 2009, -1);
        Check.eq(roll.ofLease(0, 5), 0);
        Check.eq(roll.settle(0, 0, 62), 2);
        Check.eq(roll.settled(1, 0), 300);
        // the ADVANCE of 4 of 31 days of MONTH 2 is 129
        Check.eq(roll.settled(0, 0), 100 - 2129);
        Check.eq(roll.ofLease(0, 5), 1);
        Check.eq(roll.exactShare(0, 1), "200.000000");
    }

    private static void settledOnFirstAndLastDay() {
        Check.part("SETTLE: on DAY 0, on DAY 1824, also ahead of FROM and behind LAST");
        for (int day : new int[] {0, 39, 101, 1824}) {
            for (int advance = 0; advance <= 60; advance += 60) {
                Rentroll roll = span();
                roll.freeMonth(0, 1);
                roll.freeMonth(0, 2);
                roll.freeMonth(0, 3);
                roll.advance(0, advance);
                roll.bill(0, 0, 40, 100, 50, 100);
                Check.eq(roll.settle(0, 0, day), 1);
                int told = roll.settled(0, 0);
                Check.eq(told, advance == 0 ? 50 : 50 - 41 - 60 - 22);
                if (advance == 0) {
                    Check.eq(roll.owed(0, day, 0), 50);
                    Check.eq(day == 0 ? 0 : roll.owed(0, day - 1, 0), 0);
                } else if (day < 40) {
                    Check.eq(roll.owed(0, day, 1), -told);
                    Check.eq(day == 0 ? 0 : roll.owed(0, day - 1, 1), 0);
                } else {
                    Check.eq(roll.owed(0, day, 0), 123 + told);
                    Check.eq(roll.owed(0, day - 1, 0), 123);
                }
            }
        }
    }

    private static void ownersYear() {
        Check.part("promise 50: of the MONTHS and DAYS of the YEAR");
        Rentroll roll = new Rentroll();
        roll.flat(0, 5);
        roll.lease(0, 334, 395, 1, 310, 0);
        roll.advance(0, 31);
        int[] years = {0, 1, 2};
        for (int year : years) {
            Check.eq(roll.owner(0, year, 0), year < 2 ? 310 : 0);
            Check.eq(roll.owner(0, year, 1), year < 2 ? 31 : 0);
        }
        roll.pay(0, 364, 5, -1);
        roll.pay(0, 365, 7, -1);
        roll.pay(0, 1824, 11, -1);
        Check.eq(roll.owner(0, 0, 2), 5);
        Check.eq(roll.owner(0, 1, 2), 7);
        Check.eq(roll.owner(0, 2, 2), 0);
        Check.eq(roll.owner(0, 4, 2), 11);
        Check.eq(roll.owner(1, 0, 2), 0);
    }

    private static void ownersYearGoesByLast() {
        Check.part("promise 50: DUE goes by LAST, of all its LEASES together");
        Rentroll roll = new Rentroll();
        roll.flat(0, 5);
        roll.flat(0, 5);
        roll.lease(0, 0, -1, 1, 310, 0);
        roll.lease(1, 0, 30, 1, 100, 0);
        roll.advance(0, 31);
        roll.advance(1, 7);
        Check.eq(roll.owner(0, 0, 0), 12 * 310 + 100);
        Check.eq(roll.owner(0, 0, 1), 12 * 31 + 7);
        roll.terminate(0, 33);
        Check.eq(roll.owner(0, 0, 0), 2 * 310 + 40 + 100);
        Check.eq(roll.owner(0, 0, 1), 2 * 31 + 4 + 7);
        Check.eq(roll.owner(0, 1, 0), 0);
    }
}

import java.util.ArrayList;
import java.util.Arrays;
import java.util.List;
import java.util.Set;
import java.util.TreeSet;

/**
 * What a call changes is seen by every later question that rests on it, by no other one, and no more once it is
 * UNDONE. Of each call: what it answers, and which questions of all answer otherwise then. (digest() and count(7)
 * always do, and are not written.)
 */
public final class SeenTest {
    /** Fewer than an object is used for, the calls that were told left out. */
    private static final int AT_ONCE = 400;
    private static final String RENTS = "due0 open owed0 owed2 interest owner0";

    private static final List<FullRoll.Call> QUESTIONS = FullRoll.questions();
    private static final List<Object> BEFORE = answers(null, false);

    public static void main(String[] args) {
        asTheNaiveRoll();
        leases();
        rents();
        payments();
        ends();
        costs();
        depositsAndWorks();
        nothingIsSeen();
        Check.end("SeenTest");
    }

    /** The answers of all questions behind a call; each object is asked some of them. */
    private static List<Object> answers(FullRoll.Call call, boolean isUndone) {
        List<Object> all = new ArrayList<>();
        Rentroll roll = null;
        for (int at = 0; at < QUESTIONS.size(); at++) {
            if (at % AT_ONCE == 0) {
                roll = FullRoll.made();
                if (call != null) {
                    FullRoll.make(roll, call);
                }
                if (isUndone) {
                    roll.undo();
                }
            }
            all.add(FullRoll.make(roll, QUESTIONS.get(at)));
        }
        return all;
    }

    private static void asTheNaiveRoll() {
        Check.part("what was told");
        NaiveRoll naive = FullRoll.madeNaive();
        for (int at = 0; at < QUESTIONS.size(); at++) {
            Check.same(QUESTIONS.get(at).toString(), BEFORE.get(at), FullRoll.make(naive, QUESTIONS.get(at)));
        }
    }

    /** The call must answer so; these questions, and no others, must answer otherwise then, till it is UNDONE. */
    private static void seen(String text, Object due, String... questions) {
        Check.part(text);
        FullRoll.Call call = FullRoll.Call.of(text);
        Check.same("call", FullRoll.make(FullRoll.made(), call), due);
        List<Object> then = answers(call, false);
        Set<String> changed = new TreeSet<>();
        NaiveRoll naive = FullRoll.madeNaive();
        FullRoll.make(naive, call);
        for (int at = 0; at < QUESTIONS.size(); at++) {
            FullRoll.Call question = QUESTIONS.get(at);
            Check.same(question.toString(), then.get(at), FullRoll.make(naive, question));
            if (!BEFORE.get(at).equals(then.get(at))) {
                changed.add(question.kind());
            }
        }
        Set<String> expected = new TreeSet<>(Arrays.asList(String.join(" ", questions).trim().split(" ")));
        expected.addAll(List.of("digest", "count7"));
        expected.remove("");
        Check.same("what is seen", changed, expected);
        List<Object> undone = answers(call, true);
        for (int at = 0; at < QUESTIONS.size(); at++) {
            Check.same("UNDONE, " + QUESTIONS.get(at), undone.get(at), BEFORE.get(at));
        }
    }

    private static void leases() {
        // a FLAT more: the fifth BILL's days, shared by FLATS, have a weight more; it is all FREE
        seen("flat 0 70", 5, "area tenant reading free best count0 share exactShare owner4 owner5");
        // of another HOUSE: no BILL of it is there
        seen("flat 2 70", 5, "area tenant reading free best count0");
        seen("shift 2 0 20 300", 70, "area share exactShare owner4 owner5");
        // from the FLAT that is empty to another one on the DAY of a SHIFT
        seen("shift 2 1 5 240", 85, "area share exactShare owner4 owner5");
        // only behind the days of all BILLS
        seen("shift 2 1 5 365", 85, "area");
        // from the last day of the WORKS there on
        seen("lease 2 9 900 3 200 0", 4, "count1 tenant free best share exactShare owner0 owner4 owner5 text spoiled",
            "rentOf due0 due1 open owed0 owed1 owed2 owed3 owed4 pressing interest settled depositOf0 depositOf1",
            "ofLease0 ofLease1 ofLease2 ofLease3 ofLease4 ofLease5 ofLease6 ofLease7 ofLease8 ofLease9 ofLease10",
            "ofLease11");
        seen("heads 0 150 6", 4, "share exactShare");
        // HEADS of the day FROM are told in the TEXT
        seen("heads 0 0 1", 2, "share exactShare text");
        // only behind the BILL that goes by HEADS
        seen("heads 0 365 6", 4, "");
        seen("option 0 20", 620, "ofLease1 ofLease2 text tenant free best owner1 due1 owed3", RENTS);
        seen("notice 1 700", 788, "ofLease2 ofLease3 tenant free owner1 due1 owed3", RENTS);
    }

    private static void rents() {
        seen("advance 0 55", 40, "due1 owner1 owed0 owed1 owed2 owed3 pressing open interest");
        seen("step 0 150 310", 300, "ofLease6 rentOf owed1", RENTS);
        // one on the DAY FROM takes the place of the first RENT, which the TEXT tells
        seen("step 0 0 290", 300, "rentOf text owed1", RENTS);
        seen("freeMonth 0 5", 0, "ofLease10 owed1 owed3 pressing", RENTS);
        seen("freeMonth 0 6", 1, "ofLease10 owed1 owed3 pressing", RENTS);
        // without a call that ADJUSTS an INDEX, a CLAUSE or a ROW is not seen
        seen("index 13 125", 120, "");
        seen("index 26 140", -1, "count5");
        seen("clause 0 0 50", 3, "");
        seen("compare 0 1000", 4, "");
        seen("adjust 1 25", 300, "rentOf ofLease6 ofLease9", RENTS);
        seen("raise 1 30", 280, "rentOf ofLease6", RENTS);
        seen("defect 0 100 130 50", 2, "ofLease7 owed1 owed3", RENTS);
        // on days that are not its days
        seen("defect 0 601 1824 100", 2, "ofLease7");
    }

    private static void payments() {
        seen("pay 0 400 700 12", 4, "count3 owner2 open owed0 owed2 owed3 owed4 interest");
        seen("refund 2 700 1000", 88477, "owed1");
        seen("rate 100 700", 500, "count6 interest depositOf1");
        seen("rate 0 900", 500, "interest depositOf1");
        // nothing is paid behind it, and a FEE bears no interest
        seen("remind 1 500", 1, "ofLease8 owed0 owed3");
        // what is paid on DAY 100 covers the FEE, and so less of later rents
        seen("remind 0 62", 1, "ofLease8 owed0 owed1 owed2 owed3 open interest");
        seen("settle 0 0 385", 1, "settled ofLease11 owed0 owed3 interest");
        seen("settle 1 0 400", 1, "settled ofLease11 open owed0 owed2 owed3 interest");
        // no LEASE is there: nothing is made, and that can be UNDONE
        seen("settle 2 0 400", 0, "");
    }

    private static void ends() {
        // LEASE 3 is TERMINATED, with DAY 109: what it owes till DAY 80 is paid, and LAST is TO again
        seen("pay 3 100 1500 -1", 1, "count3 owner2 ofLease2 ofLease5 tenant free best share exactShare owner4 owner5",
            "due1 owner1 owed3 owed4", RENTS);
        // not all of it
        seen("pay 3 90 100 -1", 1, "count3 owner2 open owed0 owed2 owed3 interest");
        seen("out 3", 109, "ofLease1 text");
        seen("terminate 1 700", 729, "ofLease2 ofLease4 tenant free owner1 due1 owed3", RENTS);
    }

    private static void costs() {
        // of the BILL till DAY 300 alone: at the ends of the others all is READ as before
        seen("read 0 182 900", 3, "reading share exactShare");
        // the value that is READ there already
        seen("read 0 182 500", 3, "");
        // a FLAT without a LEASE: the OWNER bears it
        seen("read 2 5 5", 1, "reading");
        seen("bill 0 0 0 200 500 100", 6, "count2 share exactShare owner3 owner4 owner5");
        seen("bill 0 0 0 400 500 0", 6, "count2 share exactShare owner3 owner5");
    }

    private static void depositsAndWorks() {
        seen("deposit 0 500 100", 8800, "depositOf0 depositOf1");
        // what is USED is a PAYMENT, but none by pay()
        seen("use 0 500 100", 8600, "depositOf0 depositOf1 owed0 owed2 interest");
        seen("giveBack 0 700", 9692, "depositOf0 depositOf1");
        seen("giveBack 3 1000", 0, "");
        seen("work 0 601 649 500", 4, "count4 best");
        // it has a day of a LEASE
        seen("work 0 600 649 500", 4, "count4");
    }

    /** What threw, was refused or only asked is no call that can be UNDONE, and nothing is seen of it. */
    private static void nothingIsSeen() {
        String[] calls = {"shift 2 1 5 239", "lease 1 1800 1824 1 5 0", "option 1 5", "notice 0 599", "adjust 0 13",
            "adjust 2 30", "raise 0 14", "raise 3 5", "refund 0 200 100000", "remind 3 70", "terminate 3 81",
            "terminate 0 20", "out 0", "out 1", "read 0 200 99", "deposit 0 449 5", "use 0 451 8701", "giveBack 0 600",
            "flat 3 5", "shift 0 3 5 5", "lease 0 0 0 7 5 5", "advance 9 5", "heads 1 30 5", "step 1 30 5",
            "freeMonth 0 60", "index 0 0", "clause 0 51 0", "compare 0 0", "defect 0 5 4 5", "pay 1 30 5 5",
            "rate 0 5001", "bill 0 5 0 0 5 5", "settle 0 5 5", "work 0 5 5 0", "area 0 5", "ofLease 0 5"};
        for (String text : calls) {
            Check.part(text);
            List<Object> then = answers(FullRoll.Call.of(text), false);
            for (int at = 0; at < QUESTIONS.size(); at++) {
                Check.same(QUESTIONS.get(at).toString(), then.get(at), BEFORE.get(at));
            }
        }
    }
}

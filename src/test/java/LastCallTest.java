import java.util.ArrayList;
import java.util.List;

/**
 * "An object is used for at most 512 calls after it has been made": the last one of them is answered as an early one,
 * whichever it is, also where all 511 ahead of it have changed something and can be UNDONE.
 */
public final class LastCallTest {
    private static final int CALLS = 512;
    /** A RATE that is told already: a call that can be UNDONE, and of which nothing else is seen. */
    private static final FullRoll.Call IDLE = FullRoll.Call.of("rate 500 800");

    public static void main(String[] args) {
        eachCallIsLast();
        eachQuestionIsLast();
        undoIsLast();
        oneKindOfCall();
        settlements();
        doneAndUndone();
        Check.end("LastCallTest");
    }

    /** All but the last call have been made, and each can be UNDONE. */
    private static Rentroll worn() {
        Rentroll roll = FullRoll.made();
        for (int call = FullRoll.toldCalls(); call < CALLS - 1; call++) {
            FullRoll.make(roll, IDLE);
        }
        return roll;
    }

    private static void eachCallIsLast() {
        String[] calls = {"flat 0 70", "shift 2 0 20 300", "lease 2 9 900 3 200 0", "advance 0 55", "heads 0 150 6",
            "step 0 150 310", "freeMonth 0 5", "option 0 20", "notice 1 700", "index 26 140", "clause 0 0 50",
            "adjust 1 25", "compare 0 1000", "raise 1 30", "defect 0 100 130 50", "pay 0 400 700 12",
            "refund 2 700 1000", "rate 100 700", "remind 0 62", "terminate 1 700", "out 3", "read 0 182 900",
            "bill 0 0 0 200 500 100", "settle 0 0 385", "deposit 0 500 100", "use 0 500 100", "giveBack 0 700",
            "work 0 601 649 500", "knock", "raise 0 14", "lease 1 1800 1824 1 5 0", "adjust 2 30", "pay 1 30 5 5"};
        for (String text : calls) {
            Check.part("as the last call: " + text);
            FullRoll.Call call = FullRoll.Call.of(text);
            Object due = FullRoll.make(FullRoll.madeNaive(), call);
            Check.same("call", FullRoll.make(FullRoll.made(), call), due);
            Check.same("call", FullRoll.make(worn(), call), due);
        }
    }

    private static void eachQuestionIsLast() {
        Check.part("as the last call");
        List<FullRoll.Call> questions = new ArrayList<>(FullRoll.questions());
        for (int at = 0; at < questions.size(); at += 23) {
            FullRoll.Call question = questions.get(at);
            boolean isOfCalls = question.kind().equals("count7") || question.kind().equals("digest");
            if (!isOfCalls) {
                Check.same(question.toString(), FullRoll.make(worn(), question),
                    FullRoll.make(FullRoll.made(), question));
            }
        }
        Check.eq(worn().count(7), CALLS - 1);
        Check.yes(worn().isSound());
    }

    private static void undoIsLast() {
        Check.part("undo() as the last call");
        Check.eq(worn().undo(), CALLS - 2);
    }

    /** 512 calls that each change something, all of one kind but those that make what it needs. */
    private static void oneKindOfCall() {
        String[][] kinds = {
            {"rate 5 1", "rate 5 2"}, {"index 5 1", "index 5 2"},
            {"advance 0 7", "advance 0 8"}, {"heads 0 0 3", "heads 0 0 4"}, {"step 0 0 5", "step 0 0 6"},
            {"freeMonth 0 59", "freeMonth 0 59"}, {"clause 0 1 1", "clause 0 1 2"}, {"pay 0 0 1 0", "pay 0 1824 1 -1"},
            {"shift 0 1 1 5", "shift 1 0 1 5"}, {"read 0 5 6", "read 0 5 7"}, {"deposit 0 5 6", "deposit 0 5 7"},
            {"settle 0 0 5", "settle 1 0 5"}, {"giveBack 1 1824", "giveBack 1 1824"}};
        for (String[] kind : kinds) {
            Check.part("512 calls: " + kind[0]);
            Rentroll roll = new Rentroll();
            NaiveRoll naive = new NaiveRoll();
            String[] made = {"flat 0 60", "flat 0 60", "lease 0 0 -1 2 300 0", "lease 1 0 700 2 300 0"};
            for (int at = 0; at < CALLS; at++) {
                FullRoll.Call call = FullRoll.Call.of(at < made.length ? made[at] : kind[at % 2]);
                Check.same("call " + at, FullRoll.make(roll, call), FullRoll.make(naive, call));
            }
            Check.eq(naive.count(7), CALLS);
        }
    }

    /** As many SETTLEMENTS as 512 calls can make: a SHIFT changes the SHARES of all twelve LEASES. */
    private static void settlements() {
        Check.part("512 calls: SETTLEMENTS of twelve LEASES");
        Rentroll roll = new Rentroll();
        roll.flat(0, 500);
        roll.flat(0, 500);
        for (int lease = 0; lease < 12; lease++) {
            roll.lease(0, lease, lease, 1, 300, 0);
        }
        // a day's 1000 coins are shared by 1000 of AREA: one coin for each
        roll.bill(0, 0, 0, 11, 12 * 1000, 100);
        int told = 0;
        for (int call = 15; call + 2 <= CALLS - 1; call += 2) {
            boolean isLess = call / 2 % 2 == 1;
            Check.eq(roll.shift(isLess ? 0 : 1, isLess ? 1 : 0, 1, 0), isLess ? 499 : 500);
            Check.eq(roll.settle(0, 0, call), 12);
            told++;
        }
        Check.eq(told, 248);
        Check.eq(roll.ofLease(11, 11), 248);
    }

    private static void doneAndUndone() {
        Check.part("512 calls: each done, UNDONE, and done again");
        Rentroll roll = FullRoll.made();
        NaiveRoll naive = FullRoll.madeNaive();
        String[] turn = {"pay 3 100 1500 -1", "undo", "out 3", "undo", "settle 0 0 385", "undo", "terminate 1 700", "undo"};
        for (int at = FullRoll.toldCalls(); at < CALLS - 1; at++) {
            FullRoll.Call call = FullRoll.Call.of(turn[at % turn.length]);
            Check.same("call " + at, FullRoll.make(roll, call), FullRoll.make(naive, call));
        }
        FullRoll.Call digest = FullRoll.Call.of("digest");
        Check.same("digest", FullRoll.make(roll, digest), FullRoll.make(naive, digest));
    }
}

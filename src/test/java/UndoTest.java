import java.util.NoSuchElementException;

/** Promises 15 to 18: undo and snapshot. */
public final class UndoTest {
    private static final Check CHECK = new Check("UndoTest");
    private static final String LOANS = "loans;open 1000 1300 30;open 2000 700 40;pay 0;";

    public static void main(String[] args) {
        undoEachChange();
        undoDepth();
        undoAndUndoCount();
        undoLeavesTheRest();
        saveSnapshot();
        restoreSnapshot();
        CHECK.end();
    }

    private static void undone(String label, Edges.Call... calls) {
        for (Edges.Call call : calls) {
            LoanSchedule x = Check.with(LOANS);
            String before = Check.plan(x);
            int count = x.undoCount();
            call.on(x);
            CHECK.due("P16 behind " + label, x.undoCount(), count + 1);
            CHECK.due("P15 " + label, x.undo(), count);
            CHECK.due("P15 plan behind " + label, Check.plan(x), before);
            CHECK.due("P16 behind the undo of " + label, x.undoCount(), count);
        }
    }

    private static void undoEachChange() {
        undone("a script", x -> Check.run(x, "loans;open 9 0 3;pay 0;"), x -> Check.run(x, "loans;"));
        undone("openLoan", x -> x.openLoan(5, 5, 5));
        undone("pay", x -> x.pay(0));
        undone("payAll", x -> x.payAll());
        undone("payExtra", x -> x.payExtra(0, 500, false), x -> x.payExtra(0, 500, true), x -> x.payExtra(1, 2000, true));
        undone("skipMonth", x -> x.skipMonth(0));
        undone("changeRate", x -> x.changeRate(0, 5));
        undone("extendTerm", x -> x.extendTerm(0, 5));
        undone("refinance", x -> x.refinance(0, 5, 5));
        undone("spendExtra", x -> x.spendExtra(1500), x -> x.spendExtra(9999999));
    }

    /** What each change of undoDepth leaves its trace in; few calls, as an object is used for 512 at most. */
    private static String traces(LoanSchedule x) {
        return Check.loan(x, 0) + " " + x.entryAmount(0) + " " + x.loanCount();
    }

    private static void undoDepth() {
        LoanSchedule x = new LoanSchedule();
        String[] plans = new String[21];
        for (int i = 0; i <= 20; i++) {
            plans[i] = traces(x);
            if (i < 20) {
                x.openLoan(10, 0, 5);
                x.undo();
                x.payExtra(0, 7 + i, i % 2 == 0);
                CHECK.due("P16 change " + i, x.undoCount(), Math.min(i + 1, 8));
            }
        }
        for (int i = 0; i < 8; i++) {
            CHECK.due("P15 back " + i, x.undo(), 7 - i);
            CHECK.due("P15 plan back " + i, traces(x), plans[19 - i]);
        }
        CHECK.due("P15 no more", x.undo(), -1);
        CHECK.due("P15 no more still", x.undo(), -1);
        CHECK.due("P16 no more", x.undoCount(), 0);
        CHECK.due("P15 plan stays", traces(x), plans[12]);
        x.pay(0);
        CHECK.due("P16 from anew", x.undoCount(), 1);
        CHECK.due("P15 from anew", x.undo(), 0);
        CHECK.due("P15 plan from anew", traces(x), plans[12]);
    }

    private static void undoAndUndoCount() {
        LoanSchedule x = new LoanSchedule();
        CHECK.due("P16 new", x.undoCount(), 0);
        CHECK.due("P15 new", x.undo(), -1);
        CHECK.due("P15 new plan", Check.plan(x), Check.plan(new LoanSchedule()));
        x.payAll();
        x.pay(0);
        CHECK.refused("P16 refused pay", IndexOutOfBoundsException.class, () -> x.pay(3));
        CHECK.refused("P16 refused openLoan", IllegalArgumentException.class, () -> x.openLoan(0, 0, 0));
        Check.run(x, "loans;^");
        x.saveSnapshot();
        x.writeSchedule(0);
        x.budgetMonths(9999999, true);
        x.savingOfExtra(0, 100, true);
        CHECK.due("P16 only changes count", x.undoCount(), 2);
    }

    private static void undoLeavesTheRest() {
        LoanSchedule x = new LoanSchedule();
        x.pay(0);
        x.pay(2);
        x.saveSnapshot();
        String saved = Check.plan(x);
        Check.run(x, "loans;pay 0;");
        x.writeSchedule(2);
        x.append(1, 2, 3, 4, 5);
        x.undo();
        CHECK.due("P15 the input stays", x.inputLength(), 20);
        CHECK.due("P15 the script error stays", x.scriptErrorKind() * 100 + x.scriptErrorOffset(), 210);
        CHECK.due("P15 the report stays", x.reportByte(0), (int) '2');
        x.undo();
        x.restoreSnapshot();
        CHECK.due("P15 the snapshot stays", Check.plan(x), saved);
    }

    private static void saveSnapshot() {
        LoanSchedule x = new LoanSchedule();
        CHECK.due("P17 three loans", x.saveSnapshot(), 3);
        CHECK.due("P17 is no change", x.undoCount(), 0);
        x.openLoan(5, 0, 5);
        String later = Check.plan(x);
        CHECK.due("P17 four loans", x.saveSnapshot(), 4);
        CHECK.due("P17 the undo stays", x.undoCount(), 1);
        CHECK.due("P17 the plan stays", Check.plan(x), later);
        x.payAll();
        CHECK.due("P17 in place of the earlier", x.restoreSnapshot(), 4);
        CHECK.due("P17 what was saved", Check.plan(x), later);
        CHECK.due("P17 no loans", Check.with("loans;").saveSnapshot(), 0);
    }

    private static void restoreSnapshot() {
        LoanSchedule x = new LoanSchedule();
        x.payAll();
        CHECK.refused("P18 none saved", NoSuchElementException.class, () -> x.restoreSnapshot());
        x.saveSnapshot();
        String saved = Check.plan(x);
        x.openLoan(5, 0, 5);
        x.payAll();
        x.undo();
        Check.run(x, "loans;pay 0;");
        x.writeSchedule(2);
        x.append(1, 2, 3, 4, 5);
        CHECK.due("P18 three loans", x.restoreSnapshot(), 3);
        CHECK.due("P18 plan", Check.plan(x), saved);
        CHECK.due("P18 nothing to undo", x.undoCount(), 0);
        CHECK.due("P18 undo", x.undo(), -1);
        CHECK.due("P18 the input stays", x.inputLength(), 20);
        CHECK.due("P18 the script error stays", x.scriptErrorKind(), 2);
        CHECK.due("P18 the report stays", x.reportByte(0), (int) '2');
        x.spendExtra(9999999);
        CHECK.due("P18 again", x.restoreSnapshot(), 3);
        CHECK.due("P18 plan again", Check.plan(x), saved);
        Check.run(x, "loans;");
        CHECK.due("P18 behind a script", x.restoreSnapshot(), 3);
        CHECK.due("P18 plan behind a script", Check.plan(x), saved);
    }
}

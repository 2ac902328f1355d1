import java.util.NoSuchElementException;

/** The sentences of "Terms" about undo, and promises 15 to 18. */
final class EdgesOfUndo {
    private static final String LOANS = "loans;open 1000 1300 30;open 2000 700 40;open 5 0 1;pay 0;pay 2;";

    private final Edges edges;

    EdgesOfUndo(Edges edges) {
        this.edges = edges;
    }

    void run() {
        edges.sentence(0, "The methods from `runScript` to `spendExtra` are changes.", this::changes);
        edges.sentence(0, "Each call of a change that does not throw an exception, and each successful script, can be undone, the latest one "
            + "first; the planner remembers the latest 8.", this::latestEight);
        edges.sentence(0, "Undoing restores everything except the input buffer, the script error, the report and the snapshot.", this::theRestStays);
        edges.sentence(0, "Undoing restores everything", this::wholeBook);
        edges.sentence(15, "Undoes the latest change that has not been undone.", this::latestNotUndone);
        edges.sentence(15, "Returns the number of changes that can still be undone, or NONE if there was nothing to undo.", this::undo);
        edges.sentence(16, "Returns the number of changes that can be undone.", this::undoCount);
        edges.sentence(17, "Saves a snapshot of everything that undo restores, in place of an earlier one.", this::inPlaceOfAnEarlierOne);
        edges.sentence(17, "This is not a change.", this::noChange);
        edges.sentence(17, "Returns the number of loans.", this::loansSaved);
        edges.sentence(18, "Restores the snapshot, which stays saved.", this::staysSaved);
        edges.sentence(18, "Nothing can be undone afterwards.", this::nothingToUndo);
        edges.sentence(18, "Returns the number of loans of the snapshot.", this::loansRestored);
        edges.sentence(18, "Throws `NoSuchElementException` if no snapshot was saved", this::noneSaved);
    }

    private static final String[] NAMES = {"runScript", "openLoan", "pay", "payAll", "payExtra", "payExtra keep", "payExtra of all", "skipMonth",
        "changeRate", "extendTerm", "refinance", "spendExtra", "spendExtra of all", "payAll of none", "spendExtra of none"};
    private static final Edges.Call[] CALLS = {x -> Check.run(x, "loans;"), x -> x.openLoan(5, 5, 5), x -> x.pay(0), x -> x.payAll(),
        x -> x.payExtra(0, 1, false), x -> x.payExtra(0, 500, true), x -> x.payExtra(1, 2000, true), x -> x.skipMonth(0), x -> x.changeRate(0, 0),
        x -> x.extendTerm(0, 60), x -> x.refinance(0, 3000, 120), x -> x.spendExtra(1), x -> x.spendExtra(9999999), x -> x.payAll(), x -> x.spendExtra(1)};

    /** The last two calls find no open loan; they are calls that do not throw all the same. */
    private static LoanSchedule madeFor(int call) {
        return Edges.prepared(call < 13 ? LOANS : "loans;open 5 0 1;pay 0;");
    }

    private void changes() {
        for (int i = 0; i < CALLS.length; i++) {
            LoanSchedule x = madeFor(i);
            CALLS[i].on(x);
            edges.due(NAMES[i], x.undoCount(), 3);
            edges.due(NAMES[i] + " undone", x.undo() + Check.plan(x), 2 + Check.plan(madeFor(i)));
        }
        LoanSchedule none = Edges.prepared("loans;");
        none.payAll();
        none.spendExtra(5);
        edges.due("without loans", none.undoCount(), 4);
        // changes that leave all as it is
        LoanSchedule same = Edges.prepared(LOANS);
        same.changeRate(0, 1300);
        same.refinance(1, 700, 40);
        edges.due("to the same", same.undoCount(), 4);
    }

    private void latestEight() {
        for (int count : new int[] {1, 7, 8, 9, 10, 15, 16, 17, 18, 25}) {
            LoanSchedule x = new LoanSchedule();
            for (int i = 1; i <= count; i++) {
                x.payExtra(0, i, false);
            }
            int kept = Math.min(count, 8);
            int left = 90272 - count * (count + 1) / 2;
            edges.due("kept of " + count, x.undoCount(), kept);
            for (int i = 0; i < kept; i++) {
                left += count - i;
                edges.due("undo " + i + " of " + count, x.undo() + " " + x.balance(0), kept - 1 - i + " " + left);
            }
            edges.due("no more of " + count, x.undo() + " " + x.balance(0), -1 + " " + left);
        }
        // refused calls and failed scripts push nothing out
        LoanSchedule y = new LoanSchedule();
        for (int i = 1; i <= 8; i++) {
            y.payExtra(0, i, false);
        }
        Edges.answer(y, x -> x.pay(3));
        Edges.answer(y, x -> x.payExtra(0, 0, true));
        Edges.answer(y, x -> x.payExtra(0, 9999999, true));
        Check.run(y, "loans;pay 0;");
        for (int i = 0; i < 8; i++) {
            edges.due("behind refused ones " + i, y.undo(), 7 - i);
        }
        edges.due("the first plan", Check.plan(y), Check.plan(new LoanSchedule()));
        LoanSchedule z = new LoanSchedule();
        for (int i = 0; i < 9; i++) {
            Check.run(z, "loans;repeat " + (i % 6 + 1) + "(open " + (i + 1) + " 0 1;);");
        }
        for (int i = 7; i >= 0; i--) {
            edges.due("script " + i, z.undo() + " " + z.principal(0) + " " + z.loanCount(), i + " " + (i + 1) + " " + (i % 6 + 1));
        }
        edges.due("the new object is forgotten", z.undo(), -1);
    }

    private void theRestStays() {
        for (int i = 0; i < CALLS.length; i++) {
            LoanSchedule x = madeFor(i);
            String plan = Check.plan(x);
            CALLS[i].on(x);
            x.saveSnapshot();
            String saved = Check.plan(x);
            Check.run(x, "loans;pay 0");
            Check.load(x, "loans;open 9 0 9;");
            String report = "250 250 249!";
            if (x.loanCount() > 0) {
                x.writeSchedule(0);
                report = Edges.text(x);
            }
            x.undo();
            edges.due("plan behind " + NAMES[i], Check.plan(x), plan);
            edges.due("script error behind " + NAMES[i], x.scriptErrorKind() + " " + x.scriptErrorOffset(), "2 10");
            edges.due("report behind " + NAMES[i], Edges.text(x), report);
            edges.due("input behind " + NAMES[i], x.inputLength() + " " + x.runScript() + " " + x.principal(0), "17 1 9");
            x.restoreSnapshot();
            edges.due("snapshot behind " + NAMES[i], Check.plan(x), saved);
        }
    }

    /** A full book, from each place on in its ring: undone, and restored by a snapshot. */
    private void wholeBook() {
        for (int count = 20; count < 40; count += 4) {
            LoanSchedule x = Check.with("loans;open 9999999 3000 120;");
            for (int i = 0; i < count; i++) {
                x.pay(0);
            }
            x.saveSnapshot();
            String book = Check.book(x);
            for (int i = 0; i < 8; i++) {
                x.payExtra(0, 1 + i, false);
            }
            for (int i = 0; i < 8; i++) {
                x.undo();
            }
            edges.due("undone, " + count, Check.book(x), book);
            for (int i = 0; i < 20; i++) {
                x.payExtra(0, 1 + i, false);
            }
            x.restoreSnapshot();
            edges.due("restored, " + count, Check.book(x), book);
        }
    }

    private void latestNotUndone() {
        LoanSchedule x = new LoanSchedule();
        x.payExtra(0, 1, false);
        x.payExtra(0, 2, false);
        x.payExtra(0, 4, false);
        x.undo();
        edges.due("the third", x.balance(0), 90269);
        x.undo();
        edges.due("the second", x.balance(0), 90271);
        x.payExtra(0, 8, false);
        x.undo();
        edges.due("the fourth", x.balance(0), 90271);
        x.undo();
        edges.due("the first", x.balance(0), 90272);
        edges.due("none", x.undo() + " " + x.balance(0), "-1 90272");
        // around the ring: eight, five back, seven more, all back
        for (int i = 1; i <= 8; i++) {
            x.payExtra(0, 1, false);
        }
        for (int i = 1; i <= 5; i++) {
            x.undo();
        }
        for (int i = 1; i <= 7; i++) {
            x.payExtra(0, 10, false);
        }
        edges.due("eight of ten", x.undoCount() + " " + x.balance(0), "8 90199");
        for (int i = 7; i >= 0; i--) {
            x.undo();
        }
        edges.due("the third of the first eight stays, the two before it too", x.undo() + " " + x.balance(0), "-1 90270");
    }

    private void undo() {
        LoanSchedule x = new LoanSchedule();
        edges.due("new", x.undo(), -1);
        for (int i = 0; i < 8; i++) {
            x.payExtra(0, 1, false);
        }
        for (int i = 7; i >= 0; i--) {
            edges.due("still " + i, x.undo(), i);
        }
        edges.due("nothing", x.undo(), -1);
        edges.due("nothing still", x.undo() + " " + Check.plan(x), -1 + " " + Check.plan(new LoanSchedule()));
        x.saveSnapshot();
        x.pay(0);
        x.restoreSnapshot();
        edges.due("behind a snapshot", x.undo(), -1);
    }

    private void undoCount() {
        LoanSchedule x = new LoanSchedule();
        edges.due("new", x.undoCount(), 0);
        for (int i = 1; i <= 18; i++) {
            x.payExtra(0, 1, true);
            edges.due("behind " + i, x.undoCount(), Math.min(i, 8));
        }
        for (int i = 7; i >= 0; i--) {
            x.undo();
            edges.due("left " + i, x.undoCount(), i);
        }
        x.undo();
        edges.due("not less than 0", x.undoCount(), 0);
        x.payAll();
        edges.due("1 again", x.undoCount(), 1);
    }

    private void inPlaceOfAnEarlierOne() {
        LoanSchedule x = Edges.prepared("loans;repeat 6(open 900 1300 9;);repeat 6(skip 0;);repeat 4(all;);");
        String six = Check.plan(x);
        x.saveSnapshot();
        Check.run(x, "loans;open 5 0 5;");
        x.restoreSnapshot();
        edges.due("six loans and a full book", Check.plan(x), six);
        Check.run(x, "loans;");
        x.saveSnapshot();
        Check.run(x, "loans;open 5 0 5;pay 0;");
        x.restoreSnapshot();
        edges.due("no loans", Check.plan(x) + x.entryLoan(0), " book-1");
        // what happens later does not reach into the snapshot
        LoanSchedule y = new LoanSchedule();
        y.saveSnapshot();
        y.payAll();
        y.skipMonth(1);
        y.undo();
        y.spendExtra(9999999);
        y.restoreSnapshot();
        edges.due("as it was", Check.plan(y), Check.plan(new LoanSchedule()));
    }

    private void noChange() {
        LoanSchedule x = new LoanSchedule();
        x.saveSnapshot();
        edges.due("new", x.undoCount() + " " + x.undo(), "0 -1");
        for (int i = 1; i <= 8; i++) {
            x.payExtra(0, i, true);
        }
        String state = Check.state(x);
        x.saveSnapshot();
        edges.due("all stays", Check.state(x), state);
        for (int i = 7; i >= 0; i--) {
            edges.due("nothing was pushed out " + i, x.undo(), i);
        }
        edges.due("the first plan", Check.plan(x), Check.plan(new LoanSchedule()));
    }

    private void loansSaved() {
        for (int count = 0; count <= 6; count++) {
            LoanSchedule x = Check.with(count == 0 ? "loans;" : "loans;repeat " + count + "(open 5 0 1;);pay 0;");
            edges.due(count + " loans", x.saveSnapshot(), count);
        }
    }

    private void staysSaved() {
        LoanSchedule x = new LoanSchedule();
        x.saveSnapshot();
        String saved = Check.plan(x);
        Edges.Call[] between = {y -> 0, y -> y.payAll(), y -> Check.run(y, "loans;"), y -> Check.run(y, "?"), y -> y.openLoan(5, 5, 5) + y.undo()};
        for (int i = 0; i < between.length; i++) {
            between[i].on(x);
            edges.due("time " + i, x.restoreSnapshot() + Check.plan(x), 3 + saved);
        }
    }

    private void nothingToUndo() {
        LoanSchedule x = new LoanSchedule();
        x.payAll();
        x.saveSnapshot();
        for (int i = 0; i < 9; i++) {
            x.payExtra(0, 1, true);
        }
        x.restoreSnapshot();
        String plan = Check.plan(x);
        edges.due("full before", x.undoCount() + " " + x.undo() + Check.plan(x), "0 -1" + plan);
        for (int i = 1; i <= 9; i++) {
            x.payExtra(0, i, true);
        }
        edges.due("from anew", x.undoCount(), 8);
        for (int i = 7; i >= 0; i--) {
            edges.due("undo " + i, x.undo(), i);
        }
        edges.due("the first of nine stays", x.undo() + " " + x.paidSoFar(0), -1 + " " + (30328 + 10328 + 1));
    }

    private void loansRestored() {
        for (int count = 0; count <= 6; count++) {
            LoanSchedule x = Check.with(count == 0 ? "loans;" : "loans;repeat " + count + "(open 5 0 1;);pay 0;");
            x.saveSnapshot();
            Check.run(x, "loans;open 5 0 5;open 6 0 6;");
            edges.due(count + " loans", x.restoreSnapshot() + " " + x.loanCount(), count + " " + count);
        }
    }

    private void noneSaved() {
        edges.refused("a new object", NoSuchElementException.class, LoanSchedule::new, x -> x.restoreSnapshot());
        edges.refused("behind changes", NoSuchElementException.class, () -> {
            LoanSchedule x = new LoanSchedule();
            x.payAll();
            x.pay(0);
            x.undo();
            Check.run(x, "loans;?");
            Check.load(x, "loans;open 7 0 7;");
            return x;
        }, x -> x.restoreSnapshot());
        LoanSchedule y = new LoanSchedule();
        y.saveSnapshot();
        edges.due("a saved one", Edges.answer(y, x -> x.restoreSnapshot()), "3");
    }
}

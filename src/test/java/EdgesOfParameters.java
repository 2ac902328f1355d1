import java.util.List;

/** The numbers of loans, the ranges of the other parameters, and which exception comes first: in every promise. */
final class EdgesOfParameters {
    private static final String NUMBER = "- `loan`: the number of a loan";
    private static final String NO_NUMBER = "Throws `IndexOutOfBoundsException` if `loan` is not the number of a loan";
    private static final String FIRST_LISTED = "If several exceptions apply, the one that is listed first is thrown.";
    private static final String CHANGES_NOTHING = "A call that throws an exception changes nothing, unless its description says otherwise.";
    private static final String OPEN = "loans;open 9999999 0 60;";
    private static final String CLOSED = "loans;open 5 0 2;pay 0;pay 0;";
    private static final String SIX = "loans;repeat 6(open 9999999 0 60;);";

    interface Of {
        Object on(LoanSchedule x, int loan, int value);
    }

    record LoanCall(int promise, String name, Of call) {
    }

    record Range(int promise, String name, String words, int least, int most, boolean ofLoan, Of call) {
        String thrown() {
            String which = promise == 6 ? "a parameter" : promise == 13 || promise == 51 ? "`rate` or `months`" : "`" + name + "`";
            return "Throws `IllegalArgumentException` if " + which + " is out of range";
        }

        String label(int value) {
            return name + " " + value;
        }
    }

    private static final List<LoanCall> LOAN_CALLS = List.of(
        new LoanCall(7, "pay", (x, n, v) -> x.pay(n)),
        new LoanCall(9, "payExtra", (x, n, v) -> x.payExtra(n, 1, true)),
        new LoanCall(10, "skipMonth", (x, n, v) -> x.skipMonth(n)),
        new LoanCall(11, "changeRate", (x, n, v) -> x.changeRate(n, 5)),
        new LoanCall(12, "extendTerm", (x, n, v) -> x.extendTerm(n, 1)),
        new LoanCall(13, "refinance", (x, n, v) -> x.refinance(n, 5, 5)),
        new LoanCall(23, "isOpen", (x, n, v) -> x.isOpen(n)),
        new LoanCall(24, "principal", (x, n, v) -> x.principal(n)),
        new LoanCall(25, "balance", (x, n, v) -> x.balance(n)),
        new LoanCall(26, "rate", (x, n, v) -> x.rate(n)),
        new LoanCall(27, "monthsLeft", (x, n, v) -> x.monthsLeft(n)),
        new LoanCall(28, "installment", (x, n, v) -> x.installment(n)),
        new LoanCall(29, "carry", (x, n, v) -> x.carry(n)),
        new LoanCall(30, "interestDue", (x, n, v) -> x.interestDue(n)),
        new LoanCall(31, "amountDue", (x, n, v) -> x.amountDue(n)),
        new LoanCall(32, "interestSoFar", (x, n, v) -> x.interestSoFar(n)),
        new LoanCall(33, "paidSoFar", (x, n, v) -> x.paidSoFar(n)),
        new LoanCall(34, "paidMonths", (x, n, v) -> x.paidMonths(n)),
        new LoanCall(35, "skippedMonths", (x, n, v) -> x.skippedMonths(n)),
        new LoanCall(40, "interestOfPayment", (x, n, v) -> x.interestOfPayment(n, 1)),
        new LoanCall(41, "amountOfPayment", (x, n, v) -> x.amountOfPayment(n, 1)),
        new LoanCall(42, "paymentsTo", (x, n, v) -> x.paymentsTo(n, 0)),
        new LoanCall(43, "balanceAfter", (x, n, v) -> x.balanceAfter(n, 0)),
        new LoanCall(44, "interestAhead", (x, n, v) -> x.interestAhead(n)),
        new LoanCall(45, "lastDue", (x, n, v) -> x.lastDue(n)),
        new LoanCall(46, "monthsToHalf", (x, n, v) -> x.monthsToHalf(n)),
        new LoanCall(47, "installmentFor", (x, n, v) -> x.installmentFor(n, 1)),
        new LoanCall(48, "monthsFor", (x, n, v) -> x.monthsFor(n, 1)),
        new LoanCall(49, "savingOfExtra", (x, n, v) -> x.savingOfExtra(n, 1, false)),
        new LoanCall(50, "interestIfRate", (x, n, v) -> x.interestIfRate(n, 0)),
        new LoanCall(51, "isCheaper", (x, n, v) -> x.isCheaper(n, 0, 1)),
        new LoanCall(52, "skipsWithin", (x, n, v) -> x.skipsWithin(n, 1)),
        new LoanCall(64, "writeSchedule", (x, n, v) -> x.writeSchedule(n)));

    private static final String NTH = ": 1 for the next payment, 2 for the one after it, and so on, up to 120";

    private static final List<Range> RANGES = List.of(
        new Range(6, "principal", ": 1 to 9999999", 1, 9999999, false, (x, n, v) -> x.openLoan(v, 5, 5)),
        new Range(6, "rate", ": 0 to 3000", 0, 3000, false, (x, n, v) -> x.openLoan(5, v, 5)),
        new Range(6, "months", ": 1 to 120", 1, 120, false, (x, n, v) -> x.openLoan(5, 5, v)),
        new Range(9, "amount", ": 1 to 9999999", 1, 9999999, true, (x, n, v) -> x.payExtra(n, v, v % 2 == 0)),
        new Range(11, "rate", ": 0 to 3000", 0, 3000, true, (x, n, v) -> x.changeRate(n, v)),
        new Range(12, "months", ": 1 to 60", 1, 60, true, (x, n, v) -> x.extendTerm(n, v)),
        new Range(13, "rate", ": 0 to 3000", 0, 3000, true, (x, n, v) -> x.refinance(n, v, 5)),
        new Range(13, "months", ": 1 to 120", 1, 120, true, (x, n, v) -> x.refinance(n, 5, v)),
        new Range(14, "amount", ": 1 to 9999999", 1, 9999999, false, (x, n, v) -> x.spendExtra(v)),
        new Range(40, "number", NTH, 1, 120, true, (x, n, v) -> x.interestOfPayment(n, v)),
        new Range(41, "number", NTH, 1, 120, true, (x, n, v) -> x.amountOfPayment(n, v)),
        new Range(42, "amount", ": 0 to 9999999", 0, 9999999, true, (x, n, v) -> x.paymentsTo(n, v)),
        new Range(43, "months", ": 0 to 120", 0, 120, true, (x, n, v) -> x.balanceAfter(n, v)),
        new Range(47, "months", ": 1 to 120", 1, 120, true, (x, n, v) -> x.installmentFor(n, v)),
        new Range(48, "installment", ": 1 to 9999999", 1, 9999999, true, (x, n, v) -> x.monthsFor(n, v)),
        new Range(49, "amount", ": 1 to 9999999", 1, 9999999, true, (x, n, v) -> x.savingOfExtra(n, v, v % 2 == 0)),
        new Range(50, "rate", ": 0 to 3000", 0, 3000, true, (x, n, v) -> x.interestIfRate(n, v)),
        new Range(51, "rate", ": 0 to 3000", 0, 3000, true, (x, n, v) -> x.isCheaper(n, v, 5)),
        new Range(51, "months", ": 1 to 120", 1, 120, true, (x, n, v) -> x.isCheaper(n, 5, v)),
        new Range(52, "amount", ": 1 to 9999999", 1, 9999999, true, (x, n, v) -> x.skipsWithin(n, v)),
        new Range(59, "budget", ": 1 to 9999999", 1, 9999999, false, (x, n, v) -> x.budgetMonths(v, true)),
        new Range(60, "budget", ": 1 to 9999999", 1, 9999999, false, (x, n, v) -> x.budgetInterest(v, false)));

    private final Edges edges;

    EdgesOfParameters(Edges edges) {
        this.edges = edges;
    }

    void run() {
        for (LoanCall c : LOAN_CALLS) {
            edges.sentence(c.promise, NUMBER, () -> numbersTaken(c));
            edges.sentence(c.promise, NO_NUMBER, () -> numbersRefused(c));
        }
        for (Range r : RANGES) {
            edges.sentence(r.promise, "- `" + r.name + "`" + r.words, () -> valuesTaken(r));
            edges.sentence(r.promise, r.thrown(), () -> valuesRefused(r));
        }
        edges.sentence(0, FIRST_LISTED, this::firstListed);
        edges.sentence(0, CHANGES_NOTHING, this::changesNothing);
    }

    private static String loans(int count) {
        return count == 0 ? "loans;" : "loans;repeat " + count + "(open 90 600 9;);";
    }

    private void numbersTaken(LoanCall c) {
        for (int count : new int[] {1, 3, 6}) {
            for (int loan : new int[] {0, count - 1}) {
                edges.taken(loan + " of " + count, () -> Edges.prepared(loans(count)), x -> c.call.on(x, loan, 0));
            }
        }
        // a closed loan has its number still: it may be refused, but for what it is
        String closed = Edges.answer(Edges.prepared("loans;open 5 0 1;pay 0;"), x -> c.call.on(x, 0, 0));
        boolean change = c.promise <= 13;
        edges.due("a closed one", closed.startsWith("throws.") ? closed : "taken", change ? "throws.IllegalStateException" : "taken");
    }

    private void numbersRefused(LoanCall c) {
        for (int count : new int[] {0, 1, 3, 6}) {
            for (int loan : new int[] {-1, count, count + 1, Edges.BIG, Edges.LOW}) {
                edges.index(loan + " of " + count, loans(count), x -> c.call.on(x, loan, 0));
            }
        }
        edges.refused("an undone one", IndexOutOfBoundsException.class, () -> {
            LoanSchedule x = Edges.prepared(loans(2));
            x.openLoan(5, 0, 5);
            x.undo();
            return x;
        }, x -> c.call.on(x, 2, 0));
        edges.refused("one that a script took away", IndexOutOfBoundsException.class, () -> {
            LoanSchedule x = Edges.prepared(loans(5));
            Check.run(x, loans(2));
            return x;
        }, x -> c.call.on(x, 2, 0));
        edges.refused("one behind the snapshot's", IndexOutOfBoundsException.class, () -> {
            LoanSchedule x = Edges.prepared(loans(5));
            x.restoreSnapshot();
            return x;
        }, x -> c.call.on(x, 3, 0));
    }

    private void valuesTaken(Range r) {
        for (int value : new int[] {r.least, r.least + 1, r.most - 1, r.most}) {
            edges.taken(r.label(value), () -> Edges.prepared(OPEN), x -> r.call.on(x, 0, value));
        }
    }

    private void valuesRefused(Range r) {
        for (int value : new int[] {r.least - 1, r.most + 1, r.least - 2, Edges.BIG, Edges.LOW}) {
            edges.argument(r.label(value), OPEN, x -> r.call.on(x, 0, value));
        }
    }

    private void firstListed() {
        for (Range r : RANGES) {
            for (int value : new int[] {r.least - 1, r.most + 1}) {
                String what = "promise " + r.promise + ", " + r.label(value);
                if (r.ofLoan) {
                    edges.index(what + ", no such loan", OPEN, x -> r.call.on(x, 1, value));
                    edges.index(what + ", loan -1", CLOSED, x -> r.call.on(x, -1, value));
                    edges.argument(what + ", closed", CLOSED, x -> r.call.on(x, 0, value));
                } else {
                    edges.argument(what + ", six loans", SIX, x -> r.call.on(x, 0, value));
                }
            }
        }
    }

    private void changesNothing() {
        for (Range r : RANGES) {
            edges.argument("promise " + r.promise + " in the midst", "loans;open 1000 1300 9;open 70 0 7;all;extra 0 10 keep;skip 0;skip 0;",
                x -> r.call.on(x, 0, r.most + 1));
        }
        edges.impossible("a seventh loan", SIX, x -> x.openLoan(5, 5, 5));
        edges.refused("a snapshot that was not saved", java.util.NoSuchElementException.class, () -> {
            LoanSchedule x = new LoanSchedule();
            x.pay(0);
            x.writeSchedule(0);
            return x;
        }, x -> x.restoreSnapshot());
        edges.refused("a length beyond the input", IllegalArgumentException.class, () -> Edges.prepared("loans;open 5 0 5;"),
            x -> x.truncateInput(x.inputLength() + 1));
    }
}

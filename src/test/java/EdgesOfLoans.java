/** Promises 21 to 39: what is told of the loans, and the book. */
final class EdgesOfLoans {
    private final Edges edges;

    EdgesOfLoans(Edges edges) {
        this.edges = edges;
    }

    void run() {
        edges.sentence(21, "Returns the number of loans that were opened.", this::loanCount);
        edges.sentence(22, "Returns the number of open loans.", this::openCount);
        edges.sentence(23, "Tells whether a loan is open.", this::isOpen);
        edges.sentence(23, "Returns whether it is.", this::isOpen);
        of(24, "Returns the principal of a loan.", "Returns the principal.", this::principal);
        of(25, "Returns the balance of a loan.", "Returns the balance.", this::balance);
        of(26, "Returns the rate of a loan.", "Returns the rate.", this::rate);
        of(27, "Returns the months left of a loan.", "Returns the months left.", this::monthsLeft);
        of(28, "Returns the installment of a loan.", "Returns the installment.", this::installment);
        of(29, "Returns the carry of a loan.", "Returns the carry.", this::carry);
        of(30, "Returns the interest of the next month of a loan.", "Returns the interest, 0 if the loan is closed.", this::interestDue);
        of(31, "Returns the amount due of the next month of a loan.", "Returns the amount due, 0 if the loan is closed.", this::amountDue);
        of(32, "Returns the interest that a loan has cost so far.", "Returns the sum of the interest of all its months, paid or skipped.",
            this::interestSoFar);
        of(33, "Returns what was paid for a loan so far.", "Returns the sum of all its payments, also of extra payments.", this::paidSoFar);
        of(34, "Returns the number of payments of amounts due of a loan.", "Returns the number of payments.", this::paidMonths);
        of(35, "Returns the number of skipped months of a loan.", "Returns the number of months.", this::skippedMonths);
        edges.sentence(36, "Returns the number of entries that are kept in the book: the latest 20 payments.", this::entryCount);
        book(37, "loan", "number of the loan", 0);
        book(38, "amount", "amount that was paid", 1);
        edges.sentence(39, "Returns the interest in an entry of the book.", () -> latest(2));
        edges.sentence(39, "- `back`: 0 for the latest entry, 1 for the one before it, and so on", () -> back(2));
        edges.sentence(39, "Returns the interest of the month that was paid, 0 for an extra payment, or NONE if there is no such entry or it is not "
            + "kept.", this::entryInterest);
    }

    private void of(int promise, String does, String returns, Edges.Test test) {
        edges.sentence(promise, does, test);
        edges.sentence(promise, returns, test);
    }

    private void book(int promise, String name, String returned, int which) {
        edges.sentence(promise, "Returns the " + name + " of an entry of the book.", () -> latest(which));
        edges.sentence(promise, "- `back`: 0 for the latest entry, 1 for the one before it, and so on", () -> back(which));
        edges.sentence(promise, "Returns the " + returned + ", or NONE if there is no such entry or it is not kept.", () -> notKept(which));
    }

    private void loanCount() {
        LoanSchedule x = Check.with("loans;");
        edges.due("none", x.loanCount(), 0);
        for (int i = 1; i <= 6; i++) {
            x.openLoan(5, 0, 1);
            edges.due("opened " + i, x.loanCount(), i);
        }
        Edges.answer(x, y -> y.openLoan(5, 0, 1));
        edges.due("a refused seventh", x.loanCount(), 6);
        x.payAll();
        edges.due("closed ones count", x.loanCount(), 6);
        x.undo();
        x.undo();
        edges.due("an undone one does not", x.loanCount(), 5);
    }

    private void openCount() {
        LoanSchedule x = Check.with("loans;");
        edges.due("no loans", x.openCount(), 0);
        Check.run(x, "loans;repeat 6(open 5 0 2;);");
        edges.due("six", x.openCount(), 6);
        x.payAll();
        edges.due("six still", x.openCount(), 6);
        for (int i = 0; i < 6; i++) {
            x.pay(i);
            edges.due("behind " + i, x.openCount(), 5 - i);
        }
        x.undo();
        edges.due("one again", x.openCount(), 1);
    }

    private void isOpen() {
        LoanSchedule x = Check.with("loans;open 5 0 2;open 1 0 1;");
        x.pay(0);
        edges.due("one month left", x.isOpen(0), true);
        x.pay(0);
        edges.due("paid off", x.isOpen(0) + " " + x.isOpen(1), "false true");
        x.undo();
        edges.due("undone", x.isOpen(0), true);
    }

    private void principal() {
        LoanSchedule x = Check.with("loans;open 1 0 1;open 9999999 3000 1;open 1000 1200 5;");
        x.pay(0);
        x.skipMonth(2);
        x.payExtra(2, 500, true);
        edges.due("closed, new, grown", x.principal(0) + " " + x.principal(1) + " " + x.principal(2), "1 9999999 1000");
    }

    private void balance() {
        LoanSchedule x = Check.with("loans;open 1 0 1;open 9999999 3000 1;open 9756097 3000 5;");
        edges.due("new", x.balance(0) + " " + x.balance(1), "1 9999999");
        x.pay(0);
        x.skipMonth(2);
        edges.due("closed, grown", x.balance(0) + " " + x.balance(2), "0 9999999");
        edges.due("grown over its principal", x.balance(2) > x.principal(2), true);
    }

    private void rate() {
        LoanSchedule x = Check.with("loans;open 5 0 1;open 5 3000 1;open 5 1 5;");
        edges.due("new", x.rate(0) + " " + x.rate(1) + " " + x.rate(2), "0 3000 1");
        x.pay(1);
        edges.due("a closed one keeps it", x.rate(1), 3000);
        x.changeRate(2, 0);
        x.undo();
        edges.due("undone", x.rate(2), 1);
    }

    private void monthsLeft() {
        LoanSchedule x = Check.with("loans;open 5 0 1;open 5 3000 120;open 120 0 120;");
        edges.due("new", x.monthsLeft(0) + " " + x.monthsLeft(1), "1 120");
        x.pay(0);
        x.pay(2);
        edges.due("closed, paid", x.monthsLeft(0) + " " + x.monthsLeft(2), "0 119");
        x.payExtra(1, 5, true);
        edges.due("closed with its months", x.monthsLeft(1), 0);
    }

    private void installment() {
        LoanSchedule x = Check.with("loans;open 1 0 120;open 9999999 3000 1;open 12 0 3;");
        edges.due("new", x.installment(0) + " " + x.installment(1) + " " + x.installment(2), "1 10249998 4");
        x.pay(1);
        x.pay(2);
        edges.due("closed, paid", x.installment(1) + " " + x.installment(2), "0 4");
    }

    private void carry() {
        LoanSchedule x = Check.with("loans;open 10909 11 9;open 120 1000 9;open 10909 11 1;");
        edges.due("new", x.carry(0), 0);
        x.skipMonth(0);
        x.skipMonth(1);
        edges.due("the greatest and the least", x.carry(0) + " " + x.carry(1), "119999 0");
        x.pay(2);
        edges.due("closed", x.carry(2), 0);
    }

    private void interestDue() {
        LoanSchedule x = Check.with("loans;open 10909 11 9;open 120 1000 9;open 9999999 3000 1;open 9999999 0 1;open 10909 11 9;skip 4;");
        edges.due("new", x.interestDue(0) + " " + x.interestDue(1) + " " + x.interestDue(2) + " " + x.interestDue(3), "0 1 249999 0");
        edges.due("with a carry", x.interestDue(4), 1);
        x.pay(2);
        x.payExtra(4, 10909, false);
        edges.due("closed", x.interestDue(2) + " " + x.interestDue(4), "0 0");
    }

    private void amountDue() {
        LoanSchedule x = Check.with("loans;open 1 0 120;open 9999999 3000 1;open 3 0 2;open 1000 1300 9;");
        edges.due("new", x.amountDue(0) + " " + x.amountDue(1) + " " + x.amountDue(2), "1 10249998 2");
        x.pay(2);
        edges.due("the rest", x.amountDue(2), 1);
        x.pay(0);
        x.pay(1);
        x.pay(2);
        x.payExtra(3, 1000, false);
        edges.due("closed", x.amountDue(0) + " " + x.amountDue(1) + " " + x.amountDue(2) + " " + x.amountDue(3), "0 0 0 0");
    }

    private void interestSoFar() {
        LoanSchedule x = Check.with("loans;open 1000 1300 3;open 5 0 1;open 9999999 3000 1;");
        edges.due("new", x.interestSoFar(0), 0);
        x.skipMonth(0);
        edges.due("skipped", x.interestSoFar(0), 10);
        x.pay(0);
        edges.due("paid", x.interestSoFar(0), 21);
        x.payExtra(0, 100, true);
        edges.due("an extra payment has none", x.interestSoFar(0), 21);
        x.payAll();
        edges.due("closed ones keep it", x.interestSoFar(1) + " " + x.interestSoFar(2), "0 249999");
    }

    private void paidSoFar() {
        LoanSchedule x = Check.with("loans;open 1000 1300 3;open 5 0 1;open 9999999 3000 1;");
        edges.due("new", x.paidSoFar(0), 0);
        x.skipMonth(0);
        edges.due("skipped", x.paidSoFar(0), 0);
        x.pay(0);
        edges.due("paid", x.paidSoFar(0), 344);
        x.payExtra(0, 1, true);
        x.payExtra(0, 2, false);
        edges.due("extra payments", x.paidSoFar(0), 347);
        x.payAll();
        edges.due("closed ones keep it", x.paidSoFar(1) + " " + x.paidSoFar(2), "5 10249998");
        x.spendExtra(3);
        edges.due("spent", x.paidSoFar(0), 347 + x.entryAmount(3) + 3);
    }

    private void paidMonths() {
        LoanSchedule x = Check.with("loans;open 1000 1300 3;open 5 0 4;");
        edges.due("new", x.paidMonths(0), 0);
        x.skipMonth(0);
        x.payExtra(0, 100, true);
        x.spendExtra(100);
        edges.due("none of amounts due", x.paidMonths(0), 0);
        x.pay(0);
        x.payAll();
        edges.due("two", x.paidMonths(0), 2);
        x.payAll();
        x.payAll();
        edges.due("closed ones keep it", x.paidMonths(0) + " " + x.paidMonths(1) + " " + x.openCount(), "3 3 0");
    }

    private void skippedMonths() {
        LoanSchedule x = Check.with("loans;open 1000 1300 3;open 5 0 4;");
        for (int i = 1; i <= 6; i++) {
            x.skipMonth(0);
            edges.due("skipped " + i, x.skippedMonths(0) + " " + x.skippedMonths(1), i + " 0");
        }
        Edges.answer(x, y -> y.skipMonth(0));
        edges.due("a refused seventh", x.skippedMonths(0), 6);
        x.payAll();
        edges.due("a payment", x.skippedMonths(0), 6);
        x.spendExtra(9999999);
        edges.due("closed", x.skippedMonths(0), 6);
    }

    // ---- the book

    private static int entry(LoanSchedule x, int which, int back) {
        return which == 0 ? x.entryLoan(back) : which == 1 ? x.entryAmount(back) : x.entryInterest(back);
    }

    /** Makes payments, each one unlike the others, and tells them: the loan, the amount and the interest of each. */
    private static int[][] payments(LoanSchedule x, int count) {
        Check.run(x, "loans;open 5000 0 120;open 5000 0 120;open 9999999 3000 120;");
        int[][] made = new int[count][];
        for (int i = 0; i < count; i++) {
            if (i % 3 == 2) {
                int interest = x.interestDue(2);
                made[i] = new int[] {2, x.pay(2), interest};
            } else {
                x.payExtra(i % 3, i + 1, i % 2 == 0);
                made[i] = new int[] {i % 3, i + 1, 0};
            }
        }
        return made;
    }

    private static LoanSchedule paid(int count) {
        LoanSchedule x = new LoanSchedule();
        payments(x, count);
        return x;
    }

    private void latest(int which) {
        LoanSchedule x = Check.with("loans;open 1000 1300 9;open 9999999 3000 1;");
        x.pay(0);
        edges.due("the first", entry(x, which, 0), new int[] {0, 118, 10}[which]);
        x.pay(1);
        edges.due("the greatest", entry(x, which, 0), new int[] {1, 10249998, 249999}[which]);
        edges.due("the one before", entry(x, which, 1), new int[] {0, 118, 10}[which]);
        x.payExtra(0, 1, true);
        edges.due("an extra payment", entry(x, which, 0), new int[] {0, 1, 0}[which]);
        x.undo();
        edges.due("undone", entry(x, which, 0) + " " + x.entryCount(), new int[] {1, 10249998, 249999}[which] + " 2");
    }

    private void back(int which) {
        for (int count : new int[] {1, 2, 19, 20, 21, 22, 39, 40, 41, 45}) {
            LoanSchedule x = new LoanSchedule();
            int[][] made = payments(x, count);
            for (int back = 0; back < Math.min(count, 20); back++) {
                edges.due(count + " payments, back " + back, entry(x, which, back), made[count - 1 - back][which]);
            }
        }
    }

    private void notKept(int which) {
        for (int count : new int[] {0, 1, 19, 20, 21, 40, 41}) {
            LoanSchedule x = paid(count);
            int kept = Math.min(count, 20);
            for (int back : new int[] {-1, -20, Edges.LOW, kept, kept + 1, 20, 21, 40, Edges.BIG}) {
                edges.due(count + " payments, back " + back, entry(x, which, back), -1);
            }
            if (kept > 0) {
                edges.due(count + " payments, the last that is kept", entry(x, which, kept - 1) >= 0, true);
            }
        }
        LoanSchedule x = paid(25);
        Check.run(x, "loans;open 5 0 5;pay 0;");
        edges.due("behind a script", entry(x, which, 0) >= 0 && entry(x, which, 1) == -1, true);
        x.undo();
        edges.due("behind its undo", entry(x, which, 19) >= 0 && entry(x, which, 20) == -1, true);
    }

    private void entryCount() {
        for (int count : new int[] {0, 1, 19, 20, 21, 40, 41}) {
            edges.due(count + " payments", paid(count).entryCount(), Math.min(count, 20));
        }
        LoanSchedule x = paid(20);
        x.skipMonth(0);
        x.changeRate(0, 5);
        x.refinance(0, 5, 5);
        edges.due("no payments", x.entryCount(), 20);
        x.payAll();
        x.undo();
        edges.due("undone", x.entryCount() + " " + x.entryAmount(19), "20 1");
    }

    private void entryInterest() {
        notKept(2);
        LoanSchedule x = Check.with("loans;open 10909 11 9;open 120 1000 9;open 9999999 3000 1;open 9 0 9;");
        x.payAll();
        edges.due("of amounts due", x.entryInterest(3) + " " + x.entryInterest(2) + " " + x.entryInterest(1) + " " + x.entryInterest(0), "0 1 249999 0");
        x.payExtra(0, 1, true);
        x.payExtra(1, 1, false);
        x.spendExtra(1);
        edges.due("of extra payments", x.entryInterest(0) + " " + x.entryInterest(1) + " " + x.entryInterest(2), "0 0 0");
        edges.due("behind them", x.entryInterest(4), 249999);
    }
}

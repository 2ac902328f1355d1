/** Promises 6 to 14: the changes. */
final class EdgesOfChanges {
    private static final String CLOSED = "loans;open 5 0 2;pay 0;pay 0;open 7 0 7;";

    private final Edges edges;

    EdgesOfChanges(Edges edges) {
        this.edges = edges;
    }

    void run() {
        edges.sentence(6, "Opens a loan.", this::openLoan);
        edges.sentence(6, "Its installment is calculated.", this::firstInstallment);
        edges.sentence(6, "Returns the number of the loan.", this::numberOfTheLoan);
        edges.sentence(6, "Throws `IllegalStateException` if 6 loans were opened", this::sixLoans);
        edges.sentence(7, "Pays the amount due of the next month of a loan.", this::pay);
        edges.sentence(7, "This is written into the book.", this::payIsWritten);
        edges.sentence(7, "Returns the amount that was paid.", this::amountPaid);
        edges.sentence(7, "Throws `IllegalStateException` if the loan is closed", () -> closedRefused(x -> x.pay(0), x -> x.pay(1)));
        edges.sentence(8, "Pays the amounts due of all open loans, in the order of their numbers.", this::payAll);
        edges.sentence(8, "Each one is written into the book.", this::eachIsWritten);
        edges.sentence(8, "Returns the sum of the amounts that were paid.", this::sumPaid);
        edges.sentence(9, "Makes an extra payment: the balance becomes less by the amount.", this::payExtra);
        edges.sentence(9, "If the loan stays open, either the term is kept and the installment is calculated anew, or the installment is kept and "
            + "the months left become the smallest number with which no amount due would be greater than the installment.", this::keptOrNot);
        edges.sentence(9, "The payment is written into the book, with the interest 0.", this::extraIsWritten);
        edges.sentence(9, "- `keepTerm`: whether the term is kept", this::keepTerm);
        edges.sentence(9, "Returns the balance afterwards.", this::balanceAfterwards);
        edges.sentence(9, "Throws `IllegalStateException` if the loan is closed or the amount is greater than its balance", this::extraRefused);
        edges.sentence(10, "Skips a month: the balance grows by the interest of the next month, and the carry becomes the new carry.", this::skipMonth);
        edges.sentence(10, "The months left stay the same, and the installment is calculated anew.", this::skipKeepsTheMonths);
        edges.sentence(10, "Returns the interest.", this::interestSkipped);
        edges.sentence(10, "Throws `IllegalStateException` if the loan is closed, 6 months of it were skipped, or its balance would become "
            + "greater than 9999999", this::skipRefused);
        edges.sentence(11, "Changes the rate of a loan.", this::changeRate);
        edges.sentence(11, "The installment is calculated anew.", this::levelOfRate);
        edges.sentence(11, "Returns the new installment.", this::answerOfRate);
        edges.sentence(11, "Throws `IllegalStateException` if the loan is closed", () -> closedRefused(x -> x.changeRate(0, 0), x -> x.changeRate(1, 0)));
        edges.sentence(12, "Makes the term of a loan longer.", this::extendTerm);
        edges.sentence(12, "The installment is calculated anew.", this::levelOfTerm);
        edges.sentence(12, "Returns the new installment.", this::answerOfTerm);
        edges.sentence(12, "Throws `IllegalStateException` if the loan is closed or would have more than 120 months left", this::extendRefused);
        edges.sentence(13, "Refinances a loan: its rate and its months left are set anew, and its installment is calculated anew.", this::refinance);
        edges.sentence(13, "The carry stays.", this::carryStays);
        edges.sentence(13, "Returns the new installment.", this::answerOfRefinance);
        edges.sentence(13, "Throws `IllegalStateException` if the loan is closed", () -> closedRefused(x -> x.refinance(0, 0, 1), x -> x.refinance(1, 0, 1)));
        edges.sentence(14, "Spends an amount for extra payments that keep the installments: always on the open loan with the greatest rate, of "
            + "several the one with the smallest number, as much as its balance allows, until the amount is spent or no loan is open.", this::spendExtra);
        edges.sentence(14, "Each payment is written into the book.", this::spentIsWritten);
        edges.sentence(14, "Returns the part of the amount that was spent.", this::partSpent);
    }

    private void closedRefused(Edges.Call onClosed, Edges.Call onOpen) {
        edges.impossible("paid off", CLOSED, onClosed);
        edges.impossible("paid off by an extra payment", "loans;open 1000 1300 5;skip 0;extra 0 1010;open 7 0 7;", onClosed);
        edges.impossible("paid off with all", "loans;open 1000 1300 1;all;open 7 0 7;", onClosed);
        edges.taken("the open one", () -> Edges.prepared(CLOSED), onOpen);
        edges.taken("a balance of 1", () -> Edges.prepared("loans;open 1 0 1;"), onClosed);
        edges.taken("open again by undo", () -> {
            LoanSchedule x = Check.with("loans;open 5 0 2;pay 0;");
            x.pay(0);
            x.undo();
            return x;
        }, onClosed);
    }

    private void openLoan() {
        LoanSchedule x = Check.with("loans;");
        x.openLoan(1, 3000, 1);
        x.openLoan(9999999, 0, 120);
        edges.due("the smallest", Check.loan(x, 0), "1 1 3000 1 1 0 0 0 0 0");
        edges.due("the greatest", Check.loan(x, 1), "9999999 9999999 0 120 83334 0 0 0 0 0");
        edges.due("no entry", x.entryCount(), 0);
        edges.due("two loans", x.loanCount() + " " + x.openCount(), "2 2");
        // where a loan was undone, nothing of it is left
        x.openLoan(1000, 1300, 9);
        x.skipMonth(2);
        x.pay(2);
        x.undo();
        x.undo();
        x.undo();
        x.openLoan(6, 0, 2);
        edges.due("in the place of an undone one", Check.loan(x, 2), "6 6 0 2 3 0 0 0 0 0");
    }

    private void firstInstallment() {
        int[][] loans = {{1, 0, 1, 1}, {1, 0, 120, 1}, {1, 3000, 120, 1}, {120, 0, 120, 1}, {121, 0, 120, 2}, {119, 0, 120, 1}, {9999999, 0, 1, 9999999},
            {9999999, 3000, 1, 10249998}, {9999999, 3000, 120, 263618}, {40, 3000, 1, 41}, {39, 3000, 1, 39}, {12000, 10, 1, 12001}};
        for (int[] loan : loans) {
            LoanSchedule x = Check.with("loans;");
            x.openLoan(loan[0], loan[1], loan[2]);
            edges.due(loan[0] + " " + loan[1] + " " + loan[2], x.installment(0) + " " + Edges.isLevel(x, 0), loan[3] + " true");
        }
    }

    private void numberOfTheLoan() {
        LoanSchedule x = Check.with("loans;");
        for (int i = 0; i < 6; i++) {
            edges.due("loan " + i, x.openLoan(5, 0, 1), i);
            x.pay(i);
        }
        edges.due("of a new object", new LoanSchedule().openLoan(5, 0, 1), 3);
    }

    private void sixLoans() {
        edges.impossible("six open ones", "loans;repeat 6(open 5 0 5;);", x -> x.openLoan(5, 0, 5));
        edges.impossible("six closed ones", "loans;repeat 6(open 5 0 5;);repeat 5(all;);", x -> x.openLoan(1, 0, 1));
        edges.taken("a sixth", () -> Edges.prepared("loans;repeat 5(open 5 0 5;);"), x -> x.openLoan(5, 0, 5));
        LoanSchedule x = Check.with("loans;repeat 5(open 5 0 5;);");
        x.openLoan(5, 0, 5);
        x.undo();
        edges.due("an undone sixth", x.openLoan(6, 0, 6), 5);
        Check.run(x, "loans;");
        edges.due("behind a script", x.openLoan(7, 0, 7), 0);
    }

    private void pay() {
        LoanSchedule x = Check.with("loans;open 5 0 4;open 1000 1300 3;open 9999999 3000 1;");
        int[] due = {2, 2, 1};
        for (int i = 0; i < 3; i++) {
            edges.due("payment " + i, x.pay(0), due[i]);
        }
        edges.due("closed by the third of four", Check.loan(x, 0), "5 0 0 0 0 0 0 5 3 0");
        edges.due("the greatest", x.pay(2) + " " + Check.loan(x, 2), "10249998 9999999 0 3000 0 0 0 249999 10249998 1 0");
        edges.due("the other one", Check.loan(x, 1), "1000 1000 1300 3 341 0 0 0 0 0");
    }

    private void payIsWritten() {
        LoanSchedule x = Check.with("loans;open 1000 1300 30;open 90 0 30;");
        for (int i = 0; i < 20; i++) {
            x.pay(1);
        }
        int interest = x.interestDue(0);
        int due = x.amountDue(0);
        x.pay(0);
        edges.due("behind a full book", x.entryCount() + " " + x.entryLoan(0) + " " + x.entryAmount(0) + " " + x.entryInterest(0), "20 0 " + due + " " + interest);
        edges.due("the one before", x.entryLoan(1) + " " + x.entryAmount(1) + " " + x.entryInterest(1), "1 3 0");
        LoanSchedule y = Check.with("loans;open 1000 1300 1;pay 0;");
        edges.due("the last payment", Check.book(y), " 0:1010+10");
    }

    private void amountPaid() {
        LoanSchedule x = Check.with("loans;open 4 0 3;open 4 0 2;open 1 0 1;open 9999999 3000 120;open 40 3000 1;");
        edges.due("less at last", x.pay(0) + " " + x.pay(0), "2 2");
        edges.due("as much at last", x.pay(1) + " " + x.pay(1), "2 2");
        edges.due("one cent", x.pay(2), 1);
        edges.due("an installment", x.pay(3), 263618);
        edges.due("with interest", x.pay(4), 41);
        edges.due("closed", x.openCount(), 1);
    }

    private void payAll() {
        LoanSchedule none = Edges.prepared("loans;");
        edges.due("no loans", none.payAll() + Check.plan(none), "0 book");
        LoanSchedule closed = Edges.prepared("loans;open 5 0 1;pay 0;");
        String plan = Check.plan(closed);
        edges.due("all closed", closed.payAll() + Check.plan(closed), 0 + plan);
        LoanSchedule x = Check.with("loans;repeat 6(open 10 0 2;);pay 2;pay 2;pay 5;");
        x.payAll();
        edges.due("the open ones, in their order", Check.book(x), " 5:5+0 4:5+0 3:5+0 1:5+0 0:5+0 5:5+0 2:5+0 2:5+0");
        edges.due("the one that closes", x.isOpen(5) + " " + x.openCount(), "false 4");
        x.payAll();
        edges.due("all of them", x.openCount() + " " + x.paidMonths(2) + " " + x.paidMonths(5) + " " + x.paidMonths(0), "0 2 2 2");
    }

    private void eachIsWritten() {
        LoanSchedule x = Check.with("loans;open 1000 1300 3;open 7 0 7;open 40 3000 1;");
        x.payAll();
        edges.due("three entries", Check.book(x), " 2:41+1 1:1+0 0:341+10");
        LoanSchedule y = Check.with("loans;repeat 6(open 90 0 90;);repeat 3(all;);");
        edges.due("18 entries", y.entryCount(), 18);
        y.payAll();
        StringBuilder book = new StringBuilder();
        for (int i = 0; i < 20; i++) {
            book.append(' ').append(5 - i % 6).append(":1+0");
        }
        edges.due("the latest 20 of 24", Check.book(y), book.toString());
    }

    private void sumPaid() {
        edges.due("six of the greatest", Check.with("loans;repeat 6(open 9999999 3000 1;);").payAll(), 6 * 10249998);
        edges.due("one cent", Check.with("loans;open 1 0 1;").payAll(), 1);
        edges.due("no loans", Check.with("loans;").payAll(), 0);
        edges.due("without the closed one", Check.with("loans;open 5 0 1;open 8 0 4;pay 0;").payAll(), 2);
    }

    private void payExtra() {
        LoanSchedule x = Check.with("loans;open 1000 1300 10;skip 0;");
        x.payExtra(0, 1, true);
        edges.due("by 1", x.balance(0) + " " + x.carry(0) + " " + x.interestSoFar(0) + " " + x.paidSoFar(0) + " " + x.paidMonths(0), "1009 100000 10 1 0");
        x.payExtra(0, 1008, false);
        edges.due("down to 1", x.balance(0) + " " + x.carry(0) + " " + x.monthsLeft(0) + " " + x.isOpen(0), "1 100000 1 true");
        x.payExtra(0, 1, false);
        edges.due("down to 0", Check.loan(x, 0), "1000 0 1300 0 0 0 10 1010 0 1");
    }

    private void keptOrNot() {
        // 100 in 4 months, 25 each: what just fits, one less, one more
        int[][] due = {{1, 4}, {24, 4}, {25, 3}, {26, 3}, {49, 3}, {50, 2}, {74, 2}, {75, 1}, {99, 1}};
        for (int[] d : due) {
            LoanSchedule x = Check.with("loans;open 100 0 4;");
            x.payExtra(0, d[0], false);
            edges.due("not kept " + d[0], x.monthsLeft(0) + " " + x.installment(0), d[1] + " 25");
            LoanSchedule y = Check.with("loans;open 100 0 4;");
            y.payExtra(0, d[0], true);
            edges.due("kept " + d[0], y.monthsLeft(0) + " " + y.installment(0), "4 " + (103 - d[0]) / 4);
        }
        // the interest and the carry decide: months and installments by hand
        for (int rate : new int[] {1, 600, 1300, 3000}) {
            for (int amount = 1; amount <= 10200; amount += 151) {
                LoanSchedule x = Check.with("loans;open 10909 " + rate + " 13;skip 0;pay 0;");
                int extra = Math.min(amount, x.balance(0) - 1);
                int installment = x.installment(0);
                x.payExtra(0, extra, false);
                edges.due("fewest months " + rate + " " + extra, x.installment(0) + " " + Edges.hasFewestMonths(x, 0), installment + " true");
                x.undo();
                x.payExtra(0, extra, true);
                edges.due("level " + rate + " " + extra, x.monthsLeft(0) + " " + Edges.isLevel(x, 0), "12 true");
            }
        }
        LoanSchedule z = Check.with("loans;open 9999999 3000 120;");
        z.payExtra(0, 1, false);
        edges.due("by a cent of the greatest", z.monthsLeft(0) + " " + Edges.hasFewestMonths(z, 0), "120 true");
        z.payExtra(0, 9999997, true);
        edges.due("1 for 120 months", z.monthsLeft(0) + " " + z.installment(0), "120 1");
    }

    private void extraIsWritten() {
        LoanSchedule x = Check.with("loans;open 1000 1300 10;open 50 0 50;repeat 20(pay 1;);");
        x.payExtra(0, 7, false);
        x.payExtra(0, 993, true);
        edges.due("behind a full book", x.entryCount() + " " + x.entryLoan(0) + ":" + x.entryAmount(0) + "+" + x.entryInterest(0) + " "
            + x.entryLoan(1) + ":" + x.entryAmount(1) + "+" + x.entryInterest(1) + " " + x.entryLoan(2), "20 0:993+0 0:7+0 1");
        LoanSchedule y = Check.with("loans;open 9999999 3000 10;extra 0 9999999;");
        edges.due("the greatest", Check.book(y), " 0:9999999+0");
    }

    private void keepTerm() {
        LoanSchedule x = Check.with("loans;open 100 0 4;");
        x.payExtra(0, 50, true);
        edges.due("kept", x.monthsLeft(0) + " " + x.installment(0), "4 13");
        x.undo();
        x.payExtra(0, 50, false);
        edges.due("not kept", x.monthsLeft(0) + " " + x.installment(0), "2 25");
    }

    private void balanceAfterwards() {
        for (boolean keep : new boolean[] {false, true}) {
            LoanSchedule x = Check.with("loans;open 9999999 0 9;");
            edges.due("by 1 " + keep, x.payExtra(0, 1, keep), 9999998);
            edges.due("down to 1 " + keep, x.payExtra(0, 9999997, keep), 1);
            edges.due("down to 0 " + keep, x.payExtra(0, 1, keep), 0);
        }
        edges.due("the greatest amount", Check.with("loans;open 9999999 0 9;").payExtra(0, 9999999, false), 0);
    }

    private void extraRefused() {
        closedRefused(x -> x.payExtra(0, 1, true), x -> x.payExtra(1, 1, true));
        for (boolean keep : new boolean[] {false, true}) {
            edges.impossible("one more than the balance " + keep, "loans;open 100 0 4;", x -> x.payExtra(0, 101, keep));
            edges.impossible("much more than the balance " + keep, "loans;open 100 0 4;", x -> x.payExtra(0, 9999999, keep));
            edges.taken("the balance " + keep, () -> Edges.prepared("loans;open 100 0 4;"), x -> x.payExtra(0, 100, keep));
            // the interest of the month does not count: 1000 is the balance, 1010 would be due
            edges.impossible("the interest too " + keep, "loans;open 1000 1200 4;", x -> x.payExtra(0, 1001, keep));
            edges.taken("all of 9999999 " + keep, () -> Edges.prepared("loans;open 9999999 0 4;"), x -> x.payExtra(0, 9999999, keep));
        }
        // a balance that grew over the principal can be paid
        edges.due("grown", Check.with("loans;open 1000 1200 4;skip 0;").payExtra(0, 1010, true), 0);
    }

    private void skipMonth() {
        LoanSchedule x = Check.with("loans;open 10909 11 9;open 120 1000 9;open 9756097 3000 9;open 9 0 9;");
        for (int i = 0; i < 4; i++) {
            x.skipMonth(i);
        }
        edges.due("just no cent", x.balance(0) + " " + x.carry(0), "10909 119999");
        edges.due("just a cent", x.balance(1) + " " + x.carry(1), "121 0");
        edges.due("the greatest balance", x.balance(2) + " " + x.carry(2), "9999999 51000");
        edges.due("no rate", x.balance(3) + " " + x.carry(3), "9 0");
        edges.due("no entry", x.entryCount(), 0);
        edges.due("counts", x.skippedMonths(0) + " " + x.paidMonths(0) + " " + x.interestSoFar(2), "1 0 243902");
    }

    private void skipKeepsTheMonths() {
        for (int months : new int[] {1, 2, 119, 120}) {
            LoanSchedule x = Check.with("loans;open 10909 3000 " + months + ";");
            for (int i = 1; i <= 6; i++) {
                int before = x.installment(0);
                x.skipMonth(0);
                edges.due(months + " months, skip " + i, x.monthsLeft(0) + " " + Edges.isLevel(x, 0) + " " + (x.installment(0) > before), months + " true true");
            }
        }
    }

    private void interestSkipped() {
        LoanSchedule x = Check.with("loans;open 10909 11 9;open 120 1000 9;open 9756097 3000 9;open 9 0 9;");
        edges.due("none", x.skipMonth(0), 0);
        edges.due("the carry makes one", x.skipMonth(0), 1);
        edges.due("just one", x.skipMonth(1), 1);
        edges.due("the most", x.skipMonth(2), 243902);
        edges.due("no rate", x.skipMonth(3), 0);
    }

    private void skipRefused() {
        closedRefused(x -> x.skipMonth(0), x -> x.skipMonth(1));
        edges.impossible("six were skipped", "loans;open 90 600 9;repeat 6(skip 0;);", x -> x.skipMonth(0));
        edges.impossible("six were skipped, then one was paid", "loans;open 90 600 9;repeat 6(skip 0;);pay 0;", x -> x.skipMonth(0));
        edges.impossible("six were skipped with payments between", "loans;open 90 600 9;repeat 6(skip 0;pay 0;);", x -> x.skipMonth(0));
        edges.impossible("six were skipped, new terms", "loans;open 90 600 9;repeat 6(skip 0;);rate 0 0;extend 0 5;", x -> x.skipMonth(0));
        edges.taken("five were skipped", () -> Edges.prepared("loans;open 90 600 9;repeat 5(skip 0;);"), x -> x.skipMonth(0));
        edges.taken("six of another were skipped", () -> Edges.prepared("loans;open 90 600 9;open 90 600 9;repeat 6(skip 1;);"), x -> x.skipMonth(0));
        LoanSchedule x = Check.with("loans;open 90 600 9;repeat 5(skip 0;);");
        x.skipMonth(0);
        x.undo();
        edges.due("an undone sixth", Edges.answer(x, y -> y.skipMonth(0)), "0");
        // 9756097 grows to 9999999, 9756098 to 10000000; without interest 9999999 stays
        edges.taken("just 9999999", () -> Edges.prepared("loans;open 9756097 3000 9;"), y -> y.skipMonth(0));
        edges.impossible("10000000", "loans;open 9756098 3000 9;", y -> y.skipMonth(0));
        edges.impossible("the greatest", "loans;open 9999999 3000 9;", y -> y.skipMonth(0));
        edges.taken("9999999 without a rate", () -> Edges.prepared("loans;open 9999999 0 9;"), y -> y.skipMonth(0));
        // 9892827 would grow by 107172 to 9999999, but its carry makes it 107173
        edges.impossible("the carry is too much", "loans;open 9786804 1300 9;skip 0;", y -> y.skipMonth(0));
        LoanSchedule z = Check.with("loans;open 9786804 1300 9;skip 0;");
        edges.due("its balance and carry", z.balance(0) + " " + z.carry(0) + " " + z.interestDue(0), "9892827 85200 107173");
        z.payExtra(0, 1, true);
        edges.due("a cent less", Edges.answer(z, y -> y.skipMonth(0)) + " " + z.balance(0), "107172 9999998");
    }

    private void changeRate() {
        LoanSchedule x = Check.with("loans;open 1000 1300 3;pay 0;");
        x.changeRate(0, 3000);
        edges.due("to 3000", Check.loan(x, 0), "1000 669 3000 2 348 100000 10 341 1 0");
        x.changeRate(0, 0);
        edges.due("to 0", Check.loan(x, 0), "1000 669 0 2 335 100000 10 341 1 0");
        x.changeRate(0, 1);
        edges.due("to 1", Check.loan(x, 0), "1000 669 1 2 335 100000 10 341 1 0");
        edges.due("no entry", x.entryCount(), 1);
    }

    private void levelOfRate() {
        LoanSchedule x = Check.with("loans;open 10909 11 9;skip 0;extra 0 10000 keep;");
        for (int rate : new int[] {0, 1, 2, 131, 132, 133, 600, 2999, 3000}) {
            x.changeRate(0, rate);
            edges.due("rate " + rate, x.rate(0) + " " + x.monthsLeft(0) + " " + Edges.isLevel(x, 0), rate + " 9 true");
        }
        // also where an extra payment had left it greater than it must be
        LoanSchedule y = Check.with("loans;open 100 0 4;extra 0 40;");
        edges.due("before", y.monthsLeft(0) + " " + y.installment(0), "3 25");
        edges.due("the same rate", y.changeRate(0, 0), 20);
    }

    private void answerOfRate() {
        LoanSchedule x = Check.with("loans;open 12000 600 1;open 9999999 3000 120;open 1 3000 120;");
        edges.due("to 0", x.changeRate(0, 0), 12000);
        edges.due("to 1000", x.changeRate(0, 1000), 12100);
        edges.due("to 3000", x.changeRate(0, 3000), 12300);
        edges.due("the longest to 0", x.changeRate(1, 0), 83334);
        edges.due("the longest to 3000", x.changeRate(1, 3000), 263618);
        edges.due("one cent", x.changeRate(2, 0), 1);
    }

    private void extendTerm() {
        LoanSchedule x = Check.with("loans;open 120 0 60;open 1000 1300 3;pay 1;");
        x.extendTerm(0, 60);
        edges.due("to 120", Check.loan(x, 0), "120 120 0 120 1 0 0 0 0 0");
        x.extendTerm(1, 1);
        edges.due("by 1", Check.loan(x, 1), "1000 669 1300 3 228 100000 10 341 1 0");
        x.extendTerm(1, 60);
        edges.due("by 60", x.monthsLeft(1), 63);
        edges.due("no entry", x.entryCount(), 1);
    }

    private void levelOfTerm() {
        LoanSchedule x = Check.with("loans;open 10909 3000 2;skip 0;pay 0;");
        int months = 1;
        for (int more : new int[] {1, 2, 57, 58, 1}) {
            x.extendTerm(0, more);
            months += more;
            edges.due("to " + months, x.monthsLeft(0) + " " + Edges.isLevel(x, 0), months + " true");
        }
    }

    private void answerOfTerm() {
        LoanSchedule x = Check.with("loans;open 1200 0 1;open 1 0 119;");
        edges.due("to 2", x.extendTerm(0, 1), 600);
        edges.due("to 60", x.extendTerm(0, 58), 20);
        edges.due("to 120", x.extendTerm(0, 60), 10);
        edges.due("one cent", x.extendTerm(1, 1), 1);
    }

    private void extendRefused() {
        closedRefused(x -> x.extendTerm(0, 1), x -> x.extendTerm(1, 1));
        edges.impossible("120 by 1", "loans;open 90 0 120;", x -> x.extendTerm(0, 1));
        edges.impossible("119 by 2", "loans;open 90 0 119;", x -> x.extendTerm(0, 2));
        edges.impossible("61 by 60", "loans;open 90 0 61;", x -> x.extendTerm(0, 60));
        edges.impossible("120 by 60", "loans;open 90 0 120;", x -> x.extendTerm(0, 60));
        edges.taken("119 by 1", () -> Edges.prepared("loans;open 90 0 119;"), x -> x.extendTerm(0, 1));
        edges.taken("60 by 60", () -> Edges.prepared("loans;open 90 0 60;"), x -> x.extendTerm(0, 60));
        edges.taken("120 by 1 behind a payment", () -> Edges.prepared("loans;open 180 0 120;pay 0;"), x -> x.extendTerm(0, 1));
        edges.impossible("120 by 2 behind a payment", "loans;open 180 0 120;pay 0;", x -> x.extendTerm(0, 2));
        edges.impossible("120 by 1 behind a skipped month", "loans;open 180 0 120;skip 0;", x -> x.extendTerm(0, 1));
    }

    private void refinance() {
        LoanSchedule x = Check.with("loans;open 1000 1300 3;pay 0;");
        int[][] terms = {{0, 1}, {3000, 1}, {0, 120}, {3000, 120}, {1, 2}, {1300, 2}};
        for (int[] t : terms) {
            x.refinance(0, t[0], t[1]);
            edges.due(t[0] + " " + t[1], x.rate(0) + " " + x.monthsLeft(0) + " " + Edges.isLevel(x, 0), t[0] + " " + t[1] + " true");
        }
        edges.due("the rest stays", Check.loan(x, 0), "1000 669 1300 2 340 100000 10 341 1 0");
        edges.due("no entry", x.entryCount(), 1);
    }

    private void carryStays() {
        LoanSchedule x = Check.with("loans;open 10909 11 9;skip 0;");
        x.refinance(0, 0, 1);
        edges.due("no rate, one month", x.carry(0), 119999);
        x.refinance(0, 3000, 120);
        edges.due("the greatest", x.carry(0), 119999);
        LoanSchedule y = Check.with("loans;open 10909 11 9;");
        y.refinance(0, 3000, 120);
        edges.due("0 stays 0", y.carry(0), 0);
    }

    private void answerOfRefinance() {
        LoanSchedule x = Check.with("loans;open 12000 600 7;");
        edges.due("0 for 1", x.refinance(0, 0, 1), 12000);
        edges.due("0 for 120", x.refinance(0, 0, 120), 100);
        edges.due("3000 for 1", x.refinance(0, 3000, 1), 12300);
        edges.due("0 for 119", x.refinance(0, 0, 119), 101);
    }

    private void spendExtra() {
        String loans = "loans;open 100 500 4;open 200 900 4;open 300 900 4;open 50 0 5;";
        // up to each loan's end, one less and one more; the balances that stay
        int[][] due = {{1, 100, 199, 300, 50}, {199, 100, 1, 300, 50}, {200, 100, 0, 300, 50}, {201, 100, 0, 299, 50}, {499, 100, 0, 1, 50},
            {500, 100, 0, 0, 50}, {501, 99, 0, 0, 50}, {599, 1, 0, 0, 50}, {600, 0, 0, 0, 50}, {601, 0, 0, 0, 49}, {649, 0, 0, 0, 1}, {650, 0, 0, 0, 0},
            {651, 0, 0, 0, 0}, {9999999, 0, 0, 0, 0}};
        for (int[] d : due) {
            LoanSchedule x = Check.with(loans);
            int[] installments = {x.installment(0), x.installment(1), x.installment(2), x.installment(3)};
            x.spendExtra(d[0]);
            for (int i = 0; i < 4; i++) {
                boolean touched = d[i + 1] > 0 && x.paidSoFar(i) > 0;
                edges.due(d[0] + ", loan " + i, x.balance(i) + " " + x.installment(i) + " " + (!touched || Edges.hasFewestMonths(x, i)),
                    d[i + 1] + " " + (d[i + 1] > 0 ? installments[i] : 0) + " true");
            }
        }
        LoanSchedule y = Check.with("loans;open 5 600 1;open 5 600 1;open 9 3000 1;pay 0;pay 2;");
        y.spendExtra(5);
        edges.due("closed ones are left out", Check.book(y), " 1:5+0 2:9+0 0:5+0");
    }

    private void spentIsWritten() {
        LoanSchedule x = Check.with("loans;open 6 5 1;open 7 6 1;open 5 4 1;open 4 3 1;open 3 2 1;open 2 1 1;");
        x.spendExtra(26);
        edges.due("six payments, the last one a part", Check.book(x), " 5:1+0 4:3+0 3:4+0 2:5+0 0:6+0 1:7+0");
        x.spendExtra(9999999);
        edges.due("the rest of it", x.entryCount() + " " + x.entryAmount(0), "7 1");
        x.spendExtra(9999999);
        edges.due("nothing to be written", x.entryCount(), 7);
        LoanSchedule y = Check.with("loans;open 5 9 5;open 50 0 50;repeat 20(pay 1;);");
        y.spendExtra(6);
        edges.due("behind a full book", y.entryCount() + " " + y.entryLoan(0) + ":" + y.entryAmount(0) + " " + y.entryLoan(1) + ":" + y.entryAmount(1)
            + " " + y.entryLoan(2), "20 1:1 0:5 1");
    }

    private void partSpent() {
        String loans = "loans;open 100 500 4;open 200 900 4;";
        int[][] due = {{1, 1}, {299, 299}, {300, 300}, {301, 300}, {9999999, 300}};
        for (int[] d : due) {
            edges.due("of " + d[0], Check.with(loans).spendExtra(d[0]), d[1]);
        }
        String six = "loans;open 7 6 1;open 6 5 1;open 5 4 1;open 4 3 1;open 3 2 1;open 2 1 1;";
        edges.due("six loans", Check.with(six).spendExtra(26) + " " + Check.with(six).spendExtra(27) + " " + Check.with(six).spendExtra(28), "26 27 27");
        edges.due("no loans", Check.with("loans;").spendExtra(9999999), 0);
        edges.due("all closed", Check.with("loans;open 5 0 1;pay 0;").spendExtra(1), 0);
        edges.due("two of the greatest", Check.with("loans;open 9999999 0 1;open 9999999 1 1;").spendExtra(9999999), 9999999);
    }
}

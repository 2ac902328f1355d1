/** Promises 40 to 60: the predictions. */
final class EdgesOfPredictions {
    // interest, amount and balance of each payment of "open 1000 1300 3": 10, 341, 669; 8, 341, 336; 3, 339, 0
    private static final String THREE = "loans;open 1000 1300 3;open 5 0 1;pay 1;";
    private static final String LONGEST = "loans;open 9999999 3000 120;open 1200 0 120;open 1 3000 120;";
    private static final String FIRST = "- `byRate`: whether the loan with the greatest rate comes first, or the one with the smallest balance";

    private final Edges edges;

    EdgesOfPredictions(Edges edges) {
        this.edges = edges;
    }

    void run() {
        edges.sentence(40, "Returns the interest in one of the next payments of amounts due of a loan.", this::interestOfPayment);
        edges.sentence(40, "Returns the interest, or NONE if the loan is closed before this payment.", () -> noSuchPayment(true));
        edges.sentence(41, "Returns the amount of one of the next payments of amounts due of a loan.", this::amountOfPayment);
        edges.sentence(41, "Returns the amount, or NONE if the loan is closed before this payment.", () -> noSuchPayment(false));
        edges.sentence(42, "Returns the number of payments of amounts due after which the balance of a loan is at most an amount.", this::paymentsTo);
        edges.sentence(42, "Returns the smallest number of payments, 0 if it is so now.", this::noPayments);
        edges.sentence(43, "Returns the balance of a loan after some payments of amounts due.", this::balanceAfter);
        edges.sentence(43, "Returns the balance.", this::balanceNowAndAtLast);
        edges.sentence(44, "Returns the interest that a loan will cost if only amounts due are paid.", this::interestAhead);
        edges.sentence(44, "Returns the sum of the interest of all months to come.", this::interestToCome);
        edges.sentence(45, "Returns the last amount due of a loan if only amounts due are paid.", this::lastDue);
        edges.sentence(45, "Returns the last amount due, 0 if the loan is closed.", this::lastDueOfClosed);
        edges.sentence(46, "Returns the number of payments of amounts due after which the balance of a loan is at most half of its principal.",
            this::monthsToHalf);
        edges.sentence(46, "Returns the smallest number of payments, 0 if it is so now.", this::halfNow);
        edges.sentence(47, "Returns the installment that a loan would have with another number of months left.", this::installmentFor);
        edges.sentence(47, "Returns the installment, 0 if the loan is closed.", this::installmentOfClosed);
        edges.sentence(48, "Returns the smallest number of months left with which a loan could have an installment: with which no amount due would be "
            + "greater than it.", this::monthsFor);
        edges.sentence(48, "Returns the number of months, 0 if the loan is closed, or NONE if 120 months do not suffice.", this::monthsForOrNone);
        edges.sentence(49, "Returns how much interest an extra payment would save.", this::savingOfExtra);
        edges.sentence(49, "- `keepTerm`: as for payExtra()", this::savingWithTheTerm);
        edges.sentence(49, "Returns interestAhead() now minus interestAhead() after the payment, or 0 if payExtra() would throw an "
            + "IllegalStateException.", this::savingOrNothing);
        edges.sentence(50, "Returns the interest that a loan would cost with another rate.", this::interestIfRate);
        edges.sentence(50, "Returns interestAhead() after changeRate() with this rate, 0 if the loan is closed.", this::interestIfRateOfClosed);
        edges.sentence(51, "Tells whether refinancing a loan would make its interest to come less.", this::isCheaper);
        edges.sentence(51, "Returns whether interestAhead() would be less after refinance() than it is now; false if the loan is closed.",
            this::isCheaperOrNot);
        edges.sentence(52, "Returns how many months of a loan could be skipped, one after the other, before the installment is greater than an amount.",
            this::skipsWithin);
        edges.sentence(52, "Returns the greatest number of calls of skipMonth() of which each one is possible and after each of which the installment "
            + "is at most the amount.", this::skipsPossible);
        edges.sentence(53, "Returns the sum of interestAhead() of all loans.", this::totalInterestAhead);
        edges.sentence(54, "Returns the open loan with the greatest rate, of several the one with the smallest number; NONE if no loan is open.",
            this::dearestLoan);
        edges.sentence(55, "Returns the open loan with the smallest balance, of several the one with the smallest number; NONE if no loan is open.",
            this::smallestLoan);
        edges.sentence(56, "Returns the sum of the amounts due of the next month of all open loans.", this::totalDue);
        edges.sentence(57, "Returns the sum of all balances.", this::totalBalance);
        edges.sentence(58, "Returns the number of months after which all loans are closed if only amounts due are paid.", this::monthsToFreedom);
        edges.sentence(59, "Returns after how many months all loans are closed with a monthly budget: in each month, the amounts due of all open loans "
            + "are paid, and the rest of the budget is spent for extra payments that keep the installments, always on the open loan with the greatest "
            + "rate (or with the smallest balance), of several the one with the smallest number, as much as its balance allows.", this::budget);
        edges.sentence(59, FIRST, this::firstOfBudget);
        edges.sentence(59, "Returns the number of months, or NONE if the budget of a month is less than the sum of its amounts due.", this::budgetMonths);
        edges.sentence(60, "Returns the interest that all loans would cost with a monthly budget, as for budgetMonths().", this::budget);
        edges.sentence(60, FIRST, this::firstOfBudget);
        edges.sentence(60, "Returns the sum of the interest of all months to come, or NONE if the budget of a month is less than the sum of its amounts "
            + "due.", this::budgetInterest);
    }

    // ---- payments to come

    private void interestOfPayment() {
        LoanSchedule x = Check.with(THREE);
        edges.due("first to third", x.interestOfPayment(0, 1) + " " + x.interestOfPayment(0, 2) + " " + x.interestOfPayment(0, 3), "10 8 3");
        LoanSchedule y = Check.with("loans;open 9999999 3000 120;open 10909 11 9;skip 1;open 9 0 1;");
        edges.due("the greatest", y.interestOfPayment(0, 1), 249999);
        edges.due("the carry counts", y.interestOfPayment(1, 1), 1);
        edges.due("none", y.interestOfPayment(2, 1), 0);
        playAll(false);
    }

    private void amountOfPayment() {
        LoanSchedule x = Check.with(THREE);
        edges.due("first to third", x.amountOfPayment(0, 1) + " " + x.amountOfPayment(0, 2) + " " + x.amountOfPayment(0, 3), "341 341 339");
        LoanSchedule y = Check.with("loans;open 9999999 3000 1;open 1 0 120;");
        edges.due("the greatest and the least", y.amountOfPayment(0, 1) + " " + y.amountOfPayment(1, 1), "10249998 1");
        playAll(true);
    }

    /** All payments of a loan of 120 months, told ahead and then paid. */
    private void playAll(boolean amounts) {
        for (String script : new String[] {"loans;open 9999999 3000 120;", "loans;open 1000 600 120;skip 0;"}) {
            LoanSchedule x = Check.with(script);
            int[] told = new int[121];
            for (int n = 1; n <= 120; n++) {
                told[n] = amounts ? x.amountOfPayment(0, n) : x.interestOfPayment(0, n);
            }
            for (int n = 1; n <= 120; n++) {
                int interest = x.interestDue(0);
                boolean open = x.isOpen(0);
                int amount = open ? x.pay(0) : -1;
                edges.due(script + " payment " + n, told[n], amounts ? amount : open ? interest : -1);
            }
        }
    }

    private void noSuchPayment(boolean interest) {
        LoanSchedule x = Check.with(THREE + "open 5 0 4;open 120 0 120;open 10 0 120;");
        int[][] due = {{0, 4}, {0, 5}, {0, 120}, {1, 1}, {1, 120}, {2, 4}, {4, 11}, {4, 120}};
        for (int[] d : due) {
            edges.due("loan " + d[0] + ", payment " + d[1], interest ? x.interestOfPayment(d[0], d[1]) : x.amountOfPayment(d[0], d[1]), -1);
        }
        int[][] last = {{0, 3}, {2, 3}, {3, 120}, {4, 10}};
        for (int[] d : last) {
            edges.due("loan " + d[0] + ", last payment " + d[1], interest ? x.interestOfPayment(d[0], d[1]) >= 0 : x.amountOfPayment(d[0], d[1]) > 0, true);
        }
    }

    private void paymentsTo() {
        LoanSchedule x = Check.with(THREE);
        int[][] due = {{9999999, 0}, {1001, 0}, {1000, 0}, {999, 1}, {670, 1}, {669, 1}, {668, 2}, {337, 2}, {336, 2}, {335, 3}, {1, 3}, {0, 3}};
        for (int[] d : due) {
            edges.due("to " + d[0], x.paymentsTo(0, d[0]), d[1]);
        }
        LoanSchedule y = Check.with("loans;open 120 0 120;open 9999999 3000 120;open 9999999 0 1;");
        edges.due("120 payments", y.paymentsTo(0, 0) + " " + y.paymentsTo(0, 1) + " " + y.paymentsTo(0, 119), "120 119 1");
        edges.due("the greatest", y.paymentsTo(1, 9999999) + " " + y.paymentsTo(1, 9999998) + " " + y.paymentsTo(1, 0), "0 1 120");
        edges.due("one payment", y.paymentsTo(2, 9999998) + " " + y.paymentsTo(2, 0), "1 1");
    }

    private void noPayments() {
        LoanSchedule x = Check.with("loans;open 1000 1300 3;pay 0;open 5 0 1;pay 1;open 9999999 0 9;");
        edges.due("just so", x.paymentsTo(0, 669), 0);
        edges.due("one less", x.paymentsTo(0, 668), 1);
        edges.due("closed", x.paymentsTo(1, 0) + " " + x.paymentsTo(1, 9999999), "0 0");
        edges.due("the greatest", x.paymentsTo(2, 9999999) + " " + x.paymentsTo(2, 9999998), "0 1");
    }

    private void balanceAfter() {
        LoanSchedule x = Check.with(THREE);
        int[] due = {1000, 669, 336, 0, 0, 0};
        for (int months = 0; months < due.length; months++) {
            edges.due("after " + months, x.balanceAfter(0, months), due[months]);
        }
        LoanSchedule y = Check.with("loans;open 120 0 120;open 5 0 4;");
        edges.due("of 120", y.balanceAfter(0, 1) + " " + y.balanceAfter(0, 119) + " " + y.balanceAfter(0, 120), "119 1 0");
        edges.due("before its months end", y.balanceAfter(1, 2) + " " + y.balanceAfter(1, 3), "1 0");
    }

    private void balanceNowAndAtLast() {
        LoanSchedule x = Check.with("loans;open 9999999 3000 120;open 5 0 1;pay 1;open 9756097 3000 9;skip 2;");
        edges.due("now", x.balanceAfter(0, 0) + " " + x.balanceAfter(2, 0), "9999999 9999999");
        edges.due("at last", x.balanceAfter(0, 120) + " " + (x.balanceAfter(0, 119) > 0), "0 true");
        edges.due("closed", x.balanceAfter(1, 0) + " " + x.balanceAfter(1, 120), "0 0");
    }

    /** The interest of all months from now on, by paying them, which is undone by the snapshot. */
    private static int played(LoanSchedule x, int loan) {
        int before = x.interestSoFar(loan);
        x.saveSnapshot();
        while (x.isOpen(loan)) {
            x.pay(loan);
        }
        int cost = x.interestSoFar(loan) - before;
        x.restoreSnapshot();
        return cost;
    }

    private void interestAhead() {
        String[] scripts = {LONGEST, THREE, "loans;open 10909 11 9;skip 0;open 12000 600 1;open 9999999 0 1;"};
        for (String script : scripts) {
            for (int loan = 0; loan < Check.with(script).loanCount(); loan++) {
                LoanSchedule x = Check.with(script);
                edges.due(script + " loan " + loan, x.interestAhead(loan), played(x, loan));
            }
        }
    }

    private void interestToCome() {
        LoanSchedule x = Check.with(THREE + "open 12000 600 1;open 9 0 9;");
        edges.due("three, two, one, no month", x.interestAhead(0) + " " + x.pay(0) + " " + x.interestAhead(0) + " " + x.pay(0) + " "
            + x.interestAhead(0) + " " + x.pay(0) + " " + x.interestAhead(0), "21 341 11 341 3 339 0");
        edges.due("closed", x.interestAhead(1), 0);
        edges.due("one month", x.interestAhead(2), 60);
        edges.due("no rate", x.interestAhead(3), 0);
        x.skipMonth(2);
        edges.due("what was skipped is past", x.interestAhead(2), 60);
    }

    private void lastDue() {
        LoanSchedule x = Check.with(THREE + "open 5 0 4;open 12000 600 1;open 4 0 2;open 1 0 120;");
        edges.due("with interest", x.lastDue(0), 339);
        edges.due("before its months end", x.lastDue(2), 1);
        edges.due("the only one", x.lastDue(3), 12060);
        edges.due("as the others", x.lastDue(4), 2);
        edges.due("one cent", x.lastDue(5), 1);
        LoanSchedule y = Check.with("loans;open 9999999 3000 120;");
        edges.due("the 120th", y.lastDue(0), y.amountOfPayment(0, 120));
    }

    private void lastDueOfClosed() {
        LoanSchedule x = Check.with("loans;open 1000 1300 5;skip 0;extra 0 1010;open 5 0 2;pay 1;");
        edges.due("closed", x.lastDue(0), 0);
        edges.due("one payment left", x.lastDue(1), 2);
        x.pay(1);
        edges.due("none left", x.lastDue(1), 0);
    }

    private void monthsToHalf() {
        int[][] due = {{100, 4, 2}, {101, 101, 51}, {99, 99, 50}, {1, 1, 1}, {2, 2, 1}, {3, 3, 2}, {120, 120, 60}, {9999999, 1, 1}};
        for (int[] d : due) {
            edges.due(d[0] + " in " + d[1], Check.with("loans;open " + d[0] + " 0 " + d[1] + ";").monthsToHalf(0), d[2]);
        }
        // 669, 336: the half of 1000 and of 671 and 673, which are odd
        edges.due("with interest", Check.with(THREE).monthsToHalf(0), 2);
        LoanSchedule x = Check.with("loans;open 9999999 3000 120;");
        int months = x.monthsToHalf(0);
        edges.due("the smallest number", (x.balanceAfter(0, months) <= 4999999) + " " + (x.balanceAfter(0, months - 1) > 4999999), "true true");
        // the principal counts, not what the balance grew to
        LoanSchedule y = Check.with("loans;open 1000 3000 10;repeat 6(skip 0;);");
        int grown = y.monthsToHalf(0);
        edges.due("grown", (y.balanceAfter(0, grown) <= 500) + " " + (y.balanceAfter(0, grown - 1) > 500), "true true");
    }

    private void halfNow() {
        int[][] due = {{100, 50, 0}, {100, 49, 1}, {101, 50, 1}, {101, 51, 0}, {1, 1, 0}, {2, 1, 0}, {9999999, 4999999, 1}, {9999999, 5000000, 0}};
        for (int[] d : due) {
            LoanSchedule x = Check.with("loans;open " + d[0] + " 0 1;extra 0 " + d[1] + ";");
            edges.due(d[0] + " less " + d[1], x.monthsToHalf(0), d[2]);
        }
    }

    private void installmentFor() {
        LoanSchedule x = Check.with("loans;open 1000 1300 3;pay 0;open 1200 0 7;open 9999999 3000 5;");
        int[][] due = {{0, 1, 677}, {0, 2, 340}, {0, 3, 228}, {1, 1, 1200}, {1, 119, 11}, {1, 120, 10}, {2, 1, 10249998}, {2, 120, 263618}};
        for (int[] d : due) {
            edges.due("loan " + d[0] + " for " + d[1], x.installmentFor(d[0], d[1]), d[2]);
        }
        LoanSchedule y = Check.with("loans;open 10909 3000 5;skip 0;pay 0;");
        for (int months : new int[] {1, 2, 3, 4, 5, 60, 119, 120}) {
            edges.due("level for " + months, Edges.isLevel(y, 0, months, y.installmentFor(0, months)), true);
        }
        edges.due("its own months", y.installmentFor(0, y.monthsLeft(0)), y.installment(0));
    }

    private void installmentOfClosed() {
        LoanSchedule x = Check.with("loans;open 1000 1300 5;skip 0;extra 0 1010;open 1 0 1;");
        edges.due("closed", x.installmentFor(0, 1) + " " + x.installmentFor(0, 120), "0 0");
        edges.due("a balance of 1", x.installmentFor(1, 1) + " " + x.installmentFor(1, 120), "1 1");
    }

    private void monthsFor() {
        LoanSchedule x = Check.with("loans;open 1000 1300 3;pay 0;open 1200 0 7;");
        int[][] due = {{0, 678, 1}, {0, 677, 1}, {0, 676, 2}, {0, 340, 2}, {0, 339, 3}, {0, 228, 3}, {0, 227, 4}, {1, 1200, 1}, {1, 1199, 2}, {1, 600, 2},
            {1, 599, 3}, {0, 9999999, 1}};
        for (int[] d : due) {
            edges.due("loan " + d[0] + " of " + d[1], x.monthsFor(d[0], d[1]), d[2]);
        }
        LoanSchedule y = Check.with("loans;open 10909 3000 5;skip 0;pay 0;");
        for (int months = 1; months <= 120; months += 7) {
            int level = y.installmentFor(0, months);
            int told = y.monthsFor(0, level);
            edges.due("level of " + months, Edges.holds(y.balance(0), 3000, y.carry(0), told, level)
                && !Edges.holds(y.balance(0), 3000, y.carry(0), told - 1, level), true);
        }
    }

    private void monthsForOrNone() {
        LoanSchedule x = Check.with("loans;open 1200 0 7;open 5 0 1;pay 1;open 9999999 3000 9;open 12000 1000 9;open 1000 1300 5;skip 4;extra 4 1010;");
        edges.due("120 months suffice", x.monthsFor(0, 10), 120);
        edges.due("120 months do not suffice", x.monthsFor(0, 9) + " " + x.monthsFor(0, 1), "-1 -1");
        edges.due("closed", x.monthsFor(1, 1) + " " + x.monthsFor(1, 9999999) + " " + x.monthsFor(4, 1), "0 0 0");
        edges.due("the greatest", x.monthsFor(2, 263618) + " " + x.monthsFor(2, 263617) + " " + x.monthsFor(2, 1), "120 -1 -1");
        // more than any installment: 10249998 would be due in one month
        edges.due("the greatest installment", x.monthsFor(2, 9999999), 2);
        edges.due("just the interest", x.monthsFor(3, 100) + " " + x.monthsFor(3, 99), "-1 -1");
    }

    // ---- what would be

    private void savingOfExtra() {
        for (boolean keep : new boolean[] {false, true}) {
            String loan = "loans;open 12000 1300 12;pay 0;skip 0;";
            int balance = Check.with(loan).balance(0);
            for (int extra : new int[] {1, 2, 5000, balance - 1, balance}) {
                LoanSchedule x = Check.with(loan);
                int now = x.interestAhead(0);
                int saving = x.savingOfExtra(0, extra, keep);
                x.payExtra(0, extra, keep);
                edges.due(extra + " " + keep, saving, now - x.interestAhead(0));
            }
        }
    }

    private void savingWithTheTerm() {
        LoanSchedule x = Check.with("loans;open 12000 1300 12;pay 0;");
        int kept = x.savingOfExtra(0, 5000, true);
        int notKept = x.savingOfExtra(0, 5000, false);
        x.payExtra(0, 5000, true);
        int after = x.interestAhead(0);
        x.undo();
        edges.due("kept", kept, x.interestAhead(0) - after);
        edges.due("more if it is not kept", notKept > kept, true);
    }

    private void savingOrNothing() {
        LoanSchedule x = Check.with("loans;open 12000 1300 12;open 1000 1300 5;skip 1;extra 1 1010;open 50 0 5;");
        for (boolean keep : new boolean[] {false, true}) {
            edges.due("all of it " + keep, x.savingOfExtra(0, 12000, keep), x.interestAhead(0));
            edges.due("one more " + keep, x.savingOfExtra(0, 12001, keep), 0);
            edges.due("the greatest " + keep, x.savingOfExtra(0, 9999999, keep), 0);
            edges.due("closed " + keep, x.savingOfExtra(1, 1, keep), 0);
            edges.due("no rate " + keep, x.savingOfExtra(2, 50, keep), 0);
        }
        LoanSchedule y = Check.with("loans;open 9999999 3000 120;");
        edges.due("all of the greatest", y.savingOfExtra(0, 9999999, true), y.interestAhead(0));
    }

    private void interestIfRate() {
        for (int rate : new int[] {0, 1, 2, 1300, 2999, 3000}) {
            LoanSchedule x = Check.with("loans;open 10909 1300 12;skip 0;pay 0;");
            int told = x.interestIfRate(0, rate);
            x.changeRate(0, rate);
            edges.due("rate " + rate, told, x.interestAhead(0));
        }
        LoanSchedule y = Check.with("loans;open 12000 600 1;open 9999999 0 120;");
        edges.due("one month", y.interestIfRate(0, 0) + " " + y.interestIfRate(0, 1000) + " " + y.interestIfRate(0, 3000), "0 100 300");
        int longest = y.interestIfRate(1, 3000);
        y.changeRate(1, 3000);
        edges.due("the longest", longest, y.interestAhead(1));
        // the installment is calculated anew: one that is greater than it must be is not kept
        LoanSchedule z = Check.with("loans;open 10000 1200 12;extra 0 500;");
        edges.due("the same rate is dearer", z.interestIfRate(0, 1200) > z.interestAhead(0), true);
    }

    private void interestIfRateOfClosed() {
        LoanSchedule x = Check.with("loans;open 1000 1300 5;skip 0;extra 0 1010;open 1 0 1;");
        edges.due("closed", x.interestIfRate(0, 0) + " " + x.interestIfRate(0, 3000), "0 0");
        edges.due("a balance of 1", x.interestIfRate(1, 3000), 0);
    }

    private void isCheaper() {
        for (int[] t : new int[][] {{0, 1}, {0, 120}, {1, 120}, {1299, 5}, {1300, 4}, {1300, 5}, {1300, 6}, {1301, 5}, {3000, 1}, {3000, 2}, {3000, 120}}) {
            LoanSchedule x = Check.with("loans;open 100909 1300 7;skip 0;pay 0;pay 0;");
            int now = x.interestAhead(0);
            boolean told = x.isCheaper(0, t[0], t[1]);
            x.refinance(0, t[0], t[1]);
            edges.due(t[0] + " for " + t[1], told, x.interestAhead(0) < now);
        }
    }

    private void isCheaperOrNot() {
        LoanSchedule x = Check.with("loans;open 120000 1000 5;open 1000 1300 5;skip 1;extra 1 1010;open 9 0 9;open 9 3000 1;");
        edges.due("as dear as now", x.isCheaper(0, 1000, 5), false);
        edges.due("a bit less", x.isCheaper(0, 999, 5), true);
        edges.due("a bit more", x.isCheaper(0, 1001, 5), false);
        edges.due("closed", x.isCheaper(1, 0, 1), false);
        edges.due("nothing is not less than nothing", x.isCheaper(2, 0, 1) + " " + x.isCheaper(3, 0, 1), "false false");
    }

    private void skipsWithin() {
        String loan = "loans;open 10000 1200 10;";
        int[] levels = new int[7];
        LoanSchedule x = Check.with(loan);
        for (int i = 0; i <= 6; i++) {
            levels[i] = x.installment(0);
            if (i < 6) {
                x.skipMonth(0);
            }
        }
        LoanSchedule y = Check.with(loan);
        edges.due("the installment now", y.skipsWithin(0, levels[0]), 0);
        for (int i = 1; i <= 6; i++) {
            edges.due("just the installment of " + i, y.skipsWithin(0, levels[i]), i);
            edges.due("one less than that of " + i, y.skipsWithin(0, levels[i] - 1), i - 1);
        }
        edges.due("the least and the greatest", y.skipsWithin(0, 1) + " " + y.skipsWithin(0, 9999999), "0 6");
    }

    private void skipsPossible() {
        LoanSchedule x = Check.with("loans;open 1000 1300 5;skip 0;extra 0 1010;open 9 0 9;open 9756097 3000 9;open 9756098 3000 9;open 9786804 1300 9;"
            + "open 9999999 3000 1;");
        edges.due("closed", x.skipsWithin(0, 1) + " " + x.skipsWithin(0, 9999999), "0 0");
        edges.due("without a rate", x.skipsWithin(1, 1), 6);
        edges.due("up to 9999999", x.skipsWithin(2, 9999999), 1);
        edges.due("over it", x.skipsWithin(3, 9999999), 0);
        edges.due("the carry over it", x.skipsWithin(4, 9999999), 1);
        edges.due("an installment over any amount", x.skipsWithin(5, 9999999), 0);
        for (int i = 1; i <= 6; i++) {
            x.skipMonth(1);
            edges.due("behind " + i, x.skipsWithin(1, 9999999), 6 - i);
        }
        // the installment now is 25, kept by an extra payment; calculated anew it is 20
        LoanSchedule kept = Check.with("loans;open 100 0 4;extra 0 40;");
        edges.due("an installment that becomes less", kept.installment(0) + " " + kept.skipsWithin(0, 20) + " " + kept.skipsWithin(0, 19), "25 6 0");
        LoanSchedule y = Check.with("loans;open 9999999 0 1;open 9999998 0 1;");
        edges.due("just as much", y.skipsWithin(0, 9999999) + " " + y.skipsWithin(0, 9999998) + " " + y.skipsWithin(1, 9999998), "6 0 6");
    }

    // ---- all loans

    private void totalInterestAhead() {
        edges.due("no loans", Check.with("loans;").totalInterestAhead(), 0);
        edges.due("all closed", Check.with("loans;open 1000 1300 5;skip 0;extra 0 1010;").totalInterestAhead(), 0);
        edges.due("two and a closed one", Check.with("loans;open 1000 1300 3;open 5 0 1;pay 1;open 1000 1200 2;").totalInterestAhead(), 36);
        LoanSchedule x = Check.with("loans;repeat 6(open 9999999 3000 120;);");
        edges.due("six of the greatest", x.totalInterestAhead(), 6 * x.interestAhead(5));
    }

    private void dearestLoan() {
        edges.due("no loans", Check.with("loans;").dearestLoan(), -1);
        edges.due("all closed", Check.with("loans;open 5 3000 1;open 5 0 1;all;").dearestLoan(), -1);
        edges.due("a rate of 0", Check.with("loans;open 5 0 1;open 5 0 1;").dearestLoan(), 0);
        edges.due("of several", Check.with("loans;open 9 2999 1;open 9 3000 1;open 5 3000 1;open 9 3000 1;").dearestLoan(), 1);
        edges.due("a closed one is left out", Check.with("loans;open 9 2998 1;open 9 2999 1;open 9 3000 1;pay 2;").dearestLoan(), 1);
        edges.due("the last of six", Check.with("loans;repeat 5(open 5 0 1;);open 5 1 1;").dearestLoan(), 5);
        edges.due("the first of six", Check.with("loans;open 5 1 1;repeat 5(open 5 0 1;);").dearestLoan(), 0);
    }

    private void smallestLoan() {
        edges.due("no loans", Check.with("loans;").smallestLoan(), -1);
        edges.due("all closed", Check.with("loans;open 5 3000 1;open 5 0 1;all;").smallestLoan(), -1);
        edges.due("the greatest balance", Check.with("loans;open 9999999 0 1;open 9999999 0 1;").smallestLoan(), 0);
        edges.due("of several", Check.with("loans;open 6 9 1;open 5 9 1;open 5 0 1;open 5 9 1;").smallestLoan(), 1);
        edges.due("a closed one is left out", Check.with("loans;open 9 0 1;open 1 0 1;open 8 0 1;pay 1;").smallestLoan(), 2);
        edges.due("the last of six", Check.with("loans;repeat 5(open 2 0 1;);open 1 0 1;").smallestLoan(), 5);
        edges.due("the balance, not the principal", Check.with("loans;open 10 0 5;open 9 0 9;repeat 2(pay 0;);").smallestLoan(), 0);
    }

    private void totalDue() {
        edges.due("no loans", Check.with("loans;").totalDue(), 0);
        edges.due("all closed", Check.with("loans;open 5 0 1;pay 0;").totalDue(), 0);
        edges.due("six of the greatest", Check.with("loans;repeat 6(open 9999999 3000 1;);").totalDue(), 61499988);
        edges.due("one of two", Check.with("loans;open 5 0 1;open 8 0 4;pay 0;").totalDue(), 2);
        edges.due("the rest", Check.with("loans;open 5 0 4;open 3 0 2;all;all;").totalDue(), 1);
    }

    private void totalBalance() {
        edges.due("no loans", Check.with("loans;").totalBalance(), 0);
        edges.due("all closed", Check.with("loans;open 5 0 1;pay 0;").totalBalance(), 0);
        edges.due("six of the greatest", Check.with("loans;repeat 6(open 9999999 3000 1;);").totalBalance(), 59999994);
        edges.due("one of two", Check.with("loans;open 5 0 1;open 8 0 4;all;").totalBalance(), 6);
    }

    private void monthsToFreedom() {
        edges.due("no loans", Check.with("loans;").monthsToFreedom(), 0);
        edges.due("all closed", Check.with("loans;open 5 0 1;pay 0;").monthsToFreedom(), 0);
        edges.due("one month", Check.with("loans;open 5 0 1;open 9999999 3000 1;").monthsToFreedom(), 1);
        edges.due("the longest", Check.with(LONGEST).monthsToFreedom(), 120);
        edges.due("before the months end", Check.with("loans;open 5 0 4;").monthsToFreedom(), 3);
        edges.due("the last of six", Check.with("loans;repeat 5(open 6 0 3;);open 4 0 4;").monthsToFreedom(), 4);
        edges.due("the first of six", Check.with("loans;open 4 0 4;repeat 5(open 6 0 3;);").monthsToFreedom(), 4);
    }

    // ---- the budget

    /** The budget spent by calls of changes; the months and the interest. */
    static String spent(LoanSchedule x, int budget, boolean byRate) {
        int months = 0;
        int before = sumOfInterest(x);
        while (x.openCount() > 0) {
            int rest = budget - x.payAll();
            while (rest > 0 && x.openCount() > 0) {
                int loan = byRate ? x.dearestLoan() : x.smallestLoan();
                int part = Math.min(rest, x.balance(loan));
                x.payExtra(loan, part, false);
                rest -= part;
            }
            months++;
        }
        return months + " " + (sumOfInterest(x) - before);
    }

    private static int sumOfInterest(LoanSchedule x) {
        int sum = 0;
        for (int i = 0; i < x.loanCount(); i++) {
            sum += x.interestSoFar(i);
        }
        return sum;
    }

    private void budget() {
        String[] scripts = {"loans;open 3000 300 10;open 60000 2400 24;open 50000 2400 24;open 3000 0 10;", "loans;open 1000 1300 3;",
            "loans;open 500 900 5;open 500 900 5;open 400 900 5;open 500 800 5;pay 2;", "loans;open 10909 11 9;skip 0;open 5 0 1;pay 1;open 900 3000 9;skip 2;"};
        for (String script : scripts) {
            int least = Check.with(script).totalDue();
            int most = Check.with(script).totalBalance();
            for (boolean byRate : new boolean[] {false, true}) {
                for (int budget : new int[] {least, least + 1, least + least / 3, (least + most) / 2, most, most + most / 50, 9999999}) {
                    LoanSchedule x = Check.with(script);
                    int months = x.budgetMonths(budget, byRate);
                    int interest = x.budgetInterest(budget, byRate);
                    edges.due(script + " " + budget + " " + byRate, months + " " + interest, spent(x, budget, byRate));
                }
            }
        }
    }

    private void firstOfBudget() {
        // the dear one is the great one
        LoanSchedule x = Check.with("loans;open 1000 100 20;open 20000 2400 20;");
        edges.due("the dearest first costs less", x.budgetInterest(3000, true) < x.budgetInterest(3000, false), true);
        edges.due("by rate", x.budgetMonths(3000, true) + " " + x.budgetInterest(3000, true), spent(Check.with("loans;open 1000 100 20;open 20000 2400 20;"), 3000, true));
        edges.due("by balance", x.budgetMonths(3000, false) + " " + x.budgetInterest(3000, false),
            spent(Check.with("loans;open 1000 100 20;open 20000 2400 20;"), 3000, false));
    }

    private void budgetMonths() {
        for (boolean byRate : new boolean[] {false, true}) {
            LoanSchedule x = Check.with("loans;open 1000 1300 3;open 5 0 1;pay 1;");
            edges.due("just the dues", x.budgetMonths(341, byRate), 3);
            edges.due("one less", x.budgetMonths(340, byRate), -1);
            edges.due("the least", x.budgetMonths(1, byRate), -1);
            edges.due("all at once", x.budgetMonths(1010, byRate) + " " + x.budgetMonths(1009, byRate), "1 2");
            edges.due("the greatest", x.budgetMonths(9999999, byRate), 1);
            edges.due("no loans", Check.with("loans;").budgetMonths(1, byRate), 0);
            edges.due("all closed", Check.with("loans;open 5 0 1;pay 0;").budgetMonths(1, byRate), 0);
            edges.due("more than any budget", Check.with("loans;open 9999999 3000 1;").budgetMonths(9999999, byRate), -1);
            edges.due("more than any budget, two loans", Check.with("loans;open 9999999 0 1;open 1 0 1;").budgetMonths(9999999, byRate), -1);
            edges.due("as much as any budget", Check.with("loans;open 9999998 0 1;open 1 0 1;").budgetMonths(9999999, byRate), 1);
            LoanSchedule y = Check.with("loans;open 120 0 120;open 240 0 120;");
            edges.due("120 months", y.budgetMonths(3, byRate) + " " + y.budgetMonths(2, byRate), "120 -1");
            edges.due("one more than the dues", y.budgetMonths(4, byRate), 90);
        }
    }

    private void budgetInterest() {
        for (boolean byRate : new boolean[] {false, true}) {
            LoanSchedule x = Check.with("loans;open 1000 1300 3;open 5 0 1;pay 1;");
            edges.due("just the dues", x.budgetInterest(341, byRate), 21);
            edges.due("one less", x.budgetInterest(340, byRate), -1);
            edges.due("the least", x.budgetInterest(1, byRate), -1);
            edges.due("all at once", x.budgetInterest(1010, byRate), 10);
            x.pay(0);
            edges.due("only what is to come", x.budgetInterest(341, byRate), 11);
            edges.due("no loans", Check.with("loans;").budgetInterest(1, byRate), 0);
            edges.due("all closed", Check.with("loans;open 1000 1300 1;pay 0;").budgetInterest(1, byRate), 0);
            edges.due("more than any budget", Check.with("loans;open 9999999 3000 1;").budgetInterest(9999999, byRate), -1);
            edges.due("no rate", Check.with("loans;open 120 0 120;").budgetInterest(1, byRate), 0);
            String six = "loans;repeat 6(open 12000 600 9;);repeat 6(skip 5;);";
            LoanSchedule y = Check.with(six);
            int told = y.budgetInterest(9000, byRate);
            edges.due("six loans", y.budgetMonths(9000, byRate) + " " + told, spent(Check.with(six), 9000, byRate));
            Check.run(y, "loans;open 1000 1300 3;");
            edges.due("one loan where six were", y.budgetInterest(341, byRate), 21);
        }
    }
}

/** Promises 40 to 60: the predictions. */
public final class PredictionsTest {
    private static final Check CHECK = new Check("PredictionsTest");
    private static final int BIG = Integer.MAX_VALUE;
    private static final int LOW = Integer.MIN_VALUE;
    // interest, amount and balance of each payment of "open 1000 1300 3": 10, 341, 669; 8, 341, 336; 3, 339, 0
    private static final String THREE = "loans;open 1000 1300 3;open 5 0 1;pay 1;";

    public static void main(String[] args) {
        payments();
        paymentsTo();
        balanceAfter();
        interestAheadAndLastDue();
        monthsToHalf();
        installmentFor();
        monthsFor();
        savingOfExtra();
        interestIfRate();
        isCheaper();
        skipsWithin();
        totals();
        firstLoans();
        monthsToFreedom();
        budgetOfOne();
        budgetOrder();
        budgetWrong();
        nothingChanges();
        CHECK.end();
    }

    private static void payments() {
        LoanSchedule x = Check.with(THREE);
        int[] interests = {10, 8, 3, -1, -1};
        int[] amounts = {341, 341, 339, -1, -1};
        for (int n = 1; n <= 5; n++) {
            CHECK.due("P40 payment " + n, x.interestOfPayment(0, n), interests[n - 1]);
            CHECK.due("P41 payment " + n, x.amountOfPayment(0, n), amounts[n - 1]);
        }
        CHECK.due("P40 the 120th", x.interestOfPayment(0, 120), -1);
        CHECK.due("P41 the 120th", x.amountOfPayment(0, 120), -1);
        CHECK.due("P40 closed", x.interestOfPayment(1, 1), -1);
        CHECK.due("P41 closed", x.amountOfPayment(1, 1), -1);
        LoanSchedule y = Check.with("loans;open 9999999 3000 120;");
        CHECK.due("P41 the last of 120", y.amountOfPayment(0, 120), y.lastDue(0));
        CHECK.due("P41 the one before", y.amountOfPayment(0, 119), 263618);
        CHECK.due("P40 the first of 120", y.interestOfPayment(0, 1), 249999);
        CHECK.due("P40 the last of 120", y.interestOfPayment(0, 120) > 0, true);
        for (int n : new int[] {0, -1, 121, BIG, LOW}) {
            CHECK.argument("P40 number " + n, () -> x.interestOfPayment(0, n));
            CHECK.argument("P41 number " + n, () -> x.amountOfPayment(0, n));
            CHECK.argument("P40 closed, number " + n, () -> x.interestOfPayment(1, n));
            CHECK.index("P40 the index first " + n, () -> x.interestOfPayment(2, n));
            CHECK.index("P41 the index first " + n, () -> x.amountOfPayment(-1, n));
        }
        CHECK.index("P40 loan 2", () -> x.interestOfPayment(2, 1));
        CHECK.index("P41 loan 2", () -> x.amountOfPayment(2, 1));
    }

    private static void paymentsTo() {
        LoanSchedule x = Check.with(THREE);
        int[][] due = {{9999999, 0}, {1000, 0}, {999, 1}, {669, 1}, {668, 2}, {336, 2}, {335, 3}, {1, 3}, {0, 3}};
        for (int[] d : due) {
            CHECK.due("P42 to " + d[0], x.paymentsTo(0, d[0]), d[1]);
        }
        CHECK.due("P42 closed", x.paymentsTo(1, 0), 0);
        CHECK.due("P42 the longest", Check.with("loans;open 120 0 120;").paymentsTo(0, 0), 120);
        CHECK.argument("P42 negative", () -> x.paymentsTo(0, -1));
        CHECK.argument("P42 great", () -> x.paymentsTo(0, 10000000));
        CHECK.argument("P42 closed, great", () -> x.paymentsTo(1, 10000000));
        CHECK.index("P42 loan 2", () -> x.paymentsTo(2, 5));
        CHECK.index("P42 the index first", () -> x.paymentsTo(-1, -1));
    }

    private static void balanceAfter() {
        LoanSchedule x = Check.with(THREE);
        int[] balances = {1000, 669, 336, 0, 0};
        for (int m = 0; m < 5; m++) {
            CHECK.due("P43 after " + m, x.balanceAfter(0, m), balances[m]);
        }
        CHECK.due("P43 after 120", x.balanceAfter(0, 120), 0);
        CHECK.due("P43 closed", x.balanceAfter(1, 0), 0);
        CHECK.argument("P43 negative", () -> x.balanceAfter(0, -1));
        CHECK.argument("P43 great", () -> x.balanceAfter(0, 121));
        CHECK.argument("P43 closed, great", () -> x.balanceAfter(1, 121));
        CHECK.index("P43 loan 2", () -> x.balanceAfter(2, 0));
        CHECK.index("P43 the index first", () -> x.balanceAfter(2, -1));
    }

    private static void interestAheadAndLastDue() {
        LoanSchedule x = Check.with(THREE);
        CHECK.due("P44 three months", x.interestAhead(0), 21);
        CHECK.due("P45 three months", x.lastDue(0), 339);
        x.pay(0);
        CHECK.due("P44 two months", x.interestAhead(0), 11);
        x.pay(0);
        CHECK.due("P44 one month", x.interestAhead(0), 3);
        CHECK.due("P45 one month", x.lastDue(0), 339);
        CHECK.due("P44 closed", x.interestAhead(1), 0);
        CHECK.due("P45 closed", x.lastDue(1), 0);
        LoanSchedule y = Check.with("loans;open 999 0 4;open 10 0 120;");
        CHECK.due("P44 without interest", y.interestAhead(0), 0);
        CHECK.due("P45 the rest", y.lastDue(0), 249);
        CHECK.due("P45 before the months end", y.lastDue(1), 1);
        CHECK.index("P44 loan 2", () -> x.interestAhead(2));
        CHECK.index("P44 loan -1", () -> x.interestAhead(-1));
        CHECK.index("P45 loan 2", () -> x.lastDue(2));
        CHECK.index("P45 loan -1", () -> x.lastDue(-1));
    }

    private static void monthsToHalf() {
        LoanSchedule x = Check.with("loans;open 100 0 4;open 101 0 101;open 1000 1300 3;open 5 0 1;pay 3;open 1 0 1;");
        CHECK.due("P46 at just half", x.monthsToHalf(0), 2);
        CHECK.due("P46 of an odd principal", x.monthsToHalf(1), 51);
        CHECK.due("P46 with interest", x.monthsToHalf(2), 2);
        CHECK.due("P46 closed", x.monthsToHalf(3), 0);
        CHECK.due("P46 of 1", x.monthsToHalf(4), 1);
        x.payExtra(0, 50, true);
        CHECK.due("P46 now", x.monthsToHalf(0), 0);
        x.payExtra(1, 50, true);
        CHECK.due("P46 51 of 101", x.monthsToHalf(1), 1);
        CHECK.index("P46 loan 5", () -> x.monthsToHalf(5));
        CHECK.index("P46 loan -1", () -> x.monthsToHalf(-1));
    }

    private static void installmentFor() {
        LoanSchedule x = Check.with("loans;open 1000 1300 3;pay 0;open 5 0 1;pay 1;open 1200 0 7;");
        CHECK.due("P47 of the carry, 1 month", x.installmentFor(0, 1), 677);
        CHECK.due("P47 of the carry, 2 months", x.installmentFor(0, 2), 340);
        CHECK.due("P47 of the carry, 3 months", x.installmentFor(0, 3), 228);
        CHECK.due("P47 closed", x.installmentFor(1, 5), 0);
        CHECK.due("P47 120 months", x.installmentFor(2, 120), 10);
        CHECK.due("P47 119 months", x.installmentFor(2, 119), 11);
        for (int m : new int[] {0, -1, 121, BIG, LOW}) {
            CHECK.argument("P47 months " + m, () -> x.installmentFor(0, m));
            CHECK.argument("P47 closed, months " + m, () -> x.installmentFor(1, m));
            CHECK.index("P47 the index first " + m, () -> x.installmentFor(3, m));
        }
        CHECK.index("P47 loan 3", () -> x.installmentFor(3, 1));
    }

    private static void monthsFor() {
        LoanSchedule x = Check.with("loans;open 1000 1300 3;pay 0;open 5 0 1;pay 1;open 1200 0 7;open 10000 1200 9;");
        int[][] due = {{9999999, 1}, {677, 1}, {676, 2}, {340, 2}, {339, 3}, {228, 3}, {227, 4}, {1, -1}};
        for (int[] d : due) {
            CHECK.due("P48 of " + d[0], x.monthsFor(0, d[0]), d[1]);
        }
        CHECK.due("P48 just 120", x.monthsFor(2, 10), 120);
        CHECK.due("P48 more than 120", x.monthsFor(2, 9), -1);
        CHECK.due("P48 the interest alone", x.monthsFor(3, 100), -1);
        CHECK.due("P48 less than the interest", x.monthsFor(3, 1), -1);
        CHECK.due("P48 closed", x.monthsFor(1, 1), 0);
        for (int a : new int[] {0, -1, 10000000, BIG, LOW}) {
            CHECK.argument("P48 installment " + a, () -> x.monthsFor(0, a));
            CHECK.argument("P48 closed, installment " + a, () -> x.monthsFor(1, a));
            CHECK.index("P48 the index first " + a, () -> x.monthsFor(4, a));
        }
        CHECK.index("P48 loan 4", () -> x.monthsFor(4, 1));
    }

    private static void savingOfExtra() {
        LoanSchedule x = Check.with("loans;open 10000 1200 12;pay 0;open 5 0 1;pay 1;open 500 0 5;");
        for (int amount : new int[] {1, 1000, 5000, x.balance(0)}) {
            for (boolean keep : new boolean[] {false, true}) {
                int now = x.interestAhead(0);
                int saving = x.savingOfExtra(0, amount, keep);
                x.payExtra(0, amount, keep);
                CHECK.due("P49 " + amount + " " + keep, saving, now - x.interestAhead(0));
                CHECK.due("P49 saves " + amount, amount < 1000 || saving > 0, true);
                x.undo();
            }
        }
        CHECK.due("P49 all of it", x.savingOfExtra(0, x.balance(0), true), x.interestAhead(0));
        CHECK.due("P49 the term matters", x.savingOfExtra(0, 5000, false) > x.savingOfExtra(0, 5000, true), true);
        CHECK.due("P49 too much", x.savingOfExtra(0, x.balance(0) + 1, true), 0);
        CHECK.due("P49 closed", x.savingOfExtra(1, 1, true), 0);
        CHECK.due("P49 without interest", x.savingOfExtra(2, 100, true), 0);
        for (int a : new int[] {0, -1, 10000000, BIG, LOW}) {
            CHECK.argument("P49 amount " + a, () -> x.savingOfExtra(0, a, true));
            CHECK.argument("P49 closed, amount " + a, () -> x.savingOfExtra(1, a, false));
            CHECK.index("P49 the index first " + a, () -> x.savingOfExtra(3, a, false));
        }
        CHECK.index("P49 loan 3", () -> x.savingOfExtra(3, 1, false));
    }

    private static void interestIfRate() {
        LoanSchedule x = Check.with("loans;open 1000 1300 3;open 5 0 1;pay 1;");
        CHECK.due("P50 the same rate", x.interestIfRate(0, 1300), 21);
        CHECK.due("P50 none", x.interestIfRate(0, 0), 0);
        for (int rate : new int[] {1, 600, 3000}) {
            int told = x.interestIfRate(0, rate);
            x.changeRate(0, rate);
            CHECK.due("P50 rate " + rate, told, x.interestAhead(0));
            x.undo();
        }
        CHECK.due("P50 closed", x.interestIfRate(1, 3000), 0);
        for (int r : new int[] {-1, 3001, BIG, LOW}) {
            CHECK.argument("P50 rate " + r, () -> x.interestIfRate(0, r));
            CHECK.argument("P50 closed, rate " + r, () -> x.interestIfRate(1, r));
            CHECK.index("P50 the index first " + r, () -> x.interestIfRate(2, r));
        }
        CHECK.index("P50 loan 2", () -> x.interestIfRate(2, 1));
    }

    private static void isCheaper() {
        LoanSchedule x = Check.with("loans;open 1000 1300 3;open 5 0 1;pay 1;");
        CHECK.due("P51 the same", x.isCheaper(0, 1300, 3), false);
        CHECK.due("P51 shorter", x.isCheaper(0, 1300, 2), true);
        CHECK.due("P51 longer", x.isCheaper(0, 1300, 4), false);
        CHECK.due("P51 lower", x.isCheaper(0, 1200, 3), true);
        CHECK.due("P51 higher", x.isCheaper(0, 1400, 3), false);
        CHECK.due("P51 closed", x.isCheaper(1, 0, 1), false);
        int now = x.interestAhead(0);
        for (int months = 1; months <= 120; months += 7) {
            int term = months;
            x.refinance(0, 400, term);
            boolean less = x.interestAhead(0) < now;
            x.undo();
            CHECK.due("P51 400 for " + term, x.isCheaper(0, 400, term), less);
        }
        CHECK.argument("P51 rate -1", () -> x.isCheaper(0, -1, 1));
        CHECK.argument("P51 rate 3001", () -> x.isCheaper(0, 3001, 1));
        CHECK.argument("P51 months 0", () -> x.isCheaper(0, 1, 0));
        CHECK.argument("P51 months 121", () -> x.isCheaper(0, 1, 121));
        CHECK.argument("P51 closed, months 121", () -> x.isCheaper(1, 1, 121));
        CHECK.index("P51 loan 2", () -> x.isCheaper(2, 1, 1));
        CHECK.index("P51 the index first", () -> x.isCheaper(2, -1, 0));
    }

    private static void skipsWithin() {
        LoanSchedule x = Check.with("loans;open 10000 1200 10;open 5 0 1;pay 1;open 9 0 9;open 9756097 3000 9;");
        int[] levels = new int[7];
        for (int i = 1; i <= 6; i++) {
            x.skipMonth(0);
            levels[i] = x.installment(0);
        }
        for (int i = 1; i <= 6; i++) {
            x.undo();
        }
        CHECK.due("P52 rising", levels[1] < levels[2] && levels[5] < levels[6], true);
        for (int i = 1; i <= 6; i++) {
            CHECK.due("P52 up to " + i, x.skipsWithin(0, levels[i]), i);
            CHECK.due("P52 not up to " + i, x.skipsWithin(0, levels[i] - 1), i - 1);
        }
        CHECK.due("P52 six at most", x.skipsWithin(0, 9999999), 6);
        x.skipMonth(0);
        CHECK.due("P52 five more", x.skipsWithin(0, 9999999), 5);
        CHECK.due("P52 closed", x.skipsWithin(1, 9999999), 0);
        CHECK.due("P52 without interest", x.skipsWithin(2, 1), 6);
        CHECK.due("P52 as the balance allows", x.skipsWithin(3, 9999999), 1);
        CHECK.due("P52 below the first", x.skipsWithin(0, 1), 0);
        for (int a : new int[] {0, -1, 10000000, BIG, LOW}) {
            CHECK.argument("P52 amount " + a, () -> x.skipsWithin(0, a));
            CHECK.argument("P52 closed, amount " + a, () -> x.skipsWithin(1, a));
            CHECK.index("P52 the index first " + a, () -> x.skipsWithin(4, a));
        }
        CHECK.index("P52 loan 4", () -> x.skipsWithin(4, 1));
    }

    private static void totals() {
        LoanSchedule x = Check.with("loans;open 1000 1300 3;open 5 0 1;pay 1;open 1000 1200 2;open 70 0 7;");
        CHECK.due("P53", x.totalInterestAhead(), 21 + 15);
        CHECK.due("P56", x.totalDue(), 341 + 508 + 10);
        CHECK.due("P57", x.totalBalance(), 2070);
        x.payAll();
        CHECK.due("P53 behind a month", x.totalInterestAhead(), 11 + 5);
        CHECK.due("P56 behind a month", x.totalDue(), 341 + 507 + 10);
        CHECK.due("P57 behind a month", x.totalBalance(), 669 + 502 + 60);
        LoanSchedule none = Check.with("loans;");
        CHECK.due("P53 none", none.totalInterestAhead(), 0);
        CHECK.due("P56 none", none.totalDue(), 0);
        CHECK.due("P57 none", none.totalBalance(), 0);
    }

    private static void firstLoans() {
        LoanSchedule x = Check.with("loans;");
        CHECK.due("P54 no loans", x.dearestLoan(), -1);
        CHECK.due("P55 no loans", x.smallestLoan(), -1);
        Check.run(x, "loans;open 50 7 1;open 40 9 1;open 30 9 1;open 30 0 1;open 60 8 1;");
        CHECK.due("P54 the first of two", x.dearestLoan(), 1);
        CHECK.due("P55 the first of two", x.smallestLoan(), 2);
        x.pay(1);
        x.pay(2);
        CHECK.due("P54 open ones", x.dearestLoan(), 4);
        CHECK.due("P55 open ones", x.smallestLoan(), 3);
        x.pay(4);
        x.pay(0);
        CHECK.due("P54 a rate of 0", x.dearestLoan(), 3);
        x.pay(3);
        CHECK.due("P54 all closed", x.dearestLoan(), -1);
        CHECK.due("P55 all closed", x.smallestLoan(), -1);
        CHECK.due("P55 the greatest balance", Check.with("loans;open 9999999 0 1;").smallestLoan(), 0);
    }

    private static void monthsToFreedom() {
        LoanSchedule x = Check.with("loans;");
        CHECK.due("P58 no loans", x.monthsToFreedom(), 0);
        x.openLoan(10, 0, 120);
        CHECK.due("P58 before the months end", x.monthsToFreedom(), 10);
        x.openLoan(1200, 0, 120);
        x.openLoan(120, 0, 60);
        CHECK.due("P58 the longest", x.monthsToFreedom(), 120);
        x.payExtra(1, 1200, true);
        CHECK.due("P58 closed ones do not count", x.monthsToFreedom(), 60);
        x.spendExtra(9999999);
        CHECK.due("P58 all closed", x.monthsToFreedom(), 0);
    }

    private static void budgetOfOne() {
        LoanSchedule x = Check.with("loans;open 1000 1300 3;");
        CHECK.due("P59 just the dues", x.budgetMonths(341, true), 3);
        CHECK.due("P60 just the dues", x.budgetInterest(341, true), 21);
        CHECK.due("P59 less than the dues", x.budgetMonths(340, true), -1);
        CHECK.due("P60 less than the dues", x.budgetInterest(340, false), -1);
        // 1010 - 500 is 510, its interest (510 * 1300 + 100000) / 120000 is 6; 516 - 500 is 16
        CHECK.due("P59 with more", x.budgetMonths(500, false), 3);
        CHECK.due("P60 with more", x.budgetInterest(500, false), 16);
        CHECK.due("P59 in two months", x.budgetMonths(508, true), 2);
        CHECK.due("P60 in two months", x.budgetInterest(508, true), 16);
        CHECK.due("P59 at once", x.budgetMonths(1010, true), 1);
        CHECK.due("P60 at once", x.budgetInterest(1010, true), 10);
        CHECK.due("P59 not at once", x.budgetMonths(1009, true), 2);
        x.pay(0);
        CHECK.due("P60 only what is to come", x.budgetInterest(341, true), 11);
        LoanSchedule y = Check.with("loans;open 10 0 120;");
        CHECK.due("P59 before the months end", y.budgetMonths(1, true), 10);
        CHECK.due("P59 three a month", y.budgetMonths(3, true), 4);
    }

    private static void budgetOrder() {
        // 1 is the dearest and 2 as dear, 0 the smallest and 3 as small
        String loans = "loans;open 3000 300 10;open 60000 2400 24;open 50000 2400 24;open 3000 0 10;";
        for (boolean byRate : new boolean[] {true, false}) {
            for (int budget : new int[] {7000, 20000, 100000, 150000}) {
                LoanSchedule x = Check.with(loans);
                int months = x.budgetMonths(budget, byRate);
                int interest = x.budgetInterest(budget, byRate);
                String played = EdgesOfPredictions.spent(x, budget, byRate);
                CHECK.due("P59 and P60 " + budget + " " + byRate, months + " " + interest, played);
            }
        }
        LoanSchedule x = Check.with(loans);
        CHECK.due("P60 by rate is cheaper", x.budgetInterest(7000, true) < x.budgetInterest(7000, false), true);
        LoanSchedule y = Check.with("loans;open 100 0 5;pay 0;open 5 0 1;pay 1;");
        CHECK.due("P59 with a closed loan", y.budgetMonths(40, false), 2);
        CHECK.due("P59 all closed", Check.with("loans;open 5 0 1;pay 0;").budgetMonths(1, true), 0);
        CHECK.due("P60 all closed", Check.with("loans;open 5 0 1;pay 0;").budgetInterest(1, true), 0);
        CHECK.due("P59 no loans", Check.with("loans;").budgetMonths(1, false), 0);
        CHECK.due("P60 no loans", Check.with("loans;").budgetInterest(1, false), 0);
    }

    private static void budgetWrong() {
        LoanSchedule x = new LoanSchedule();
        for (int b : new int[] {0, -1, 10000000, BIG, LOW}) {
            CHECK.argument("P59 budget " + b, () -> x.budgetMonths(b, true));
            CHECK.argument("P60 budget " + b, () -> x.budgetInterest(b, false));
        }
        CHECK.due("P59 the greatest budget", x.budgetMonths(9999999, true), 1);
        LoanSchedule y = Check.with("loans;open 9999999 3000 1;open 9999999 3000 1;");
        CHECK.due("P59 greater dues than any budget", y.budgetMonths(9999999, true), -1);
    }

    private static void nothingChanges() {
        LoanSchedule x = new LoanSchedule();
        String before = Check.state(x);
        x.interestOfPayment(0, 3);
        x.amountOfPayment(0, 3);
        x.paymentsTo(0, 5);
        x.balanceAfter(0, 5);
        x.interestAhead(0);
        x.lastDue(0);
        x.monthsToHalf(0);
        x.installmentFor(0, 5);
        x.monthsFor(0, 5);
        x.savingOfExtra(0, 5, true);
        x.interestIfRate(0, 5);
        x.isCheaper(0, 5, 5);
        x.skipsWithin(0, 9999999);
        x.totalInterestAhead();
        x.monthsToFreedom();
        x.budgetMonths(9999999, true);
        x.budgetInterest(9999999, true);
        CHECK.due("P40 to P60 change nothing", Check.state(x), before);
    }
}

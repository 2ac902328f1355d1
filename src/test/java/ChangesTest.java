/** Promises 6 to 14: the changes. */
public final class ChangesTest {
    private static final Check CHECK = new Check("ChangesTest");
    private static final String CLOSED = "loans;open 5 0 1;pay 0;";
    private static final int BIG = Integer.MAX_VALUE;
    private static final int LOW = Integer.MIN_VALUE;

    public static void main(String[] args) {
        openLoan();
        levelInstallment();
        pay();
        payAll();
        payExtra();
        payExtraRefused();
        skipMonth();
        skipMonthRefused();
        changeRate();
        extendTerm();
        refinance();
        spendExtra();
        CHECK.end();
    }

    private static void openLoan() {
        LoanSchedule x = Check.with("loans;");
        CHECK.due("P6 first", x.openLoan(1000, 1200, 2), 0);
        CHECK.due("P6 its loan", Check.loan(x, 0), "1000 1000 1200 2 508 0 0 0 0 0");
        CHECK.due("P6 smallest", x.openLoan(1, 0, 1), 1);
        CHECK.due("P6 smallest loan", Check.loan(x, 1), "1 1 0 1 1 0 0 0 0 0");
        CHECK.due("P6 greatest", x.openLoan(9999999, 3000, 120), 2);
        CHECK.due("P6 greatest loan", Check.loan(x, 2), "9999999 9999999 3000 120 263618 0 0 0 0 0");
        CHECK.argument("P6 principal 0", () -> x.openLoan(0, 0, 1));
        CHECK.argument("P6 principal negative", () -> x.openLoan(LOW, 0, 1));
        CHECK.argument("P6 principal great", () -> x.openLoan(10000000, 0, 1));
        CHECK.argument("P6 rate negative", () -> x.openLoan(5, -1, 1));
        CHECK.argument("P6 rate great", () -> x.openLoan(5, 3001, 1));
        CHECK.argument("P6 months 0", () -> x.openLoan(5, 0, 0));
        CHECK.argument("P6 months great", () -> x.openLoan(5, 0, 121));
        CHECK.due("P6 fourth", x.openLoan(5, 0, 5), 3);
        CHECK.due("P6 fifth", x.openLoan(5, 0, 5), 4);
        CHECK.due("P6 sixth", x.openLoan(5, 0, 5), 5);
        CHECK.impossible("P6 seventh", () -> x.openLoan(5, 0, 5));
        CHECK.argument("P6 the argument first", () -> x.openLoan(0, 0, 5));
        x.pay(1);
        CHECK.impossible("P6 a closed one counts", () -> x.openLoan(5, 0, 5));
        CHECK.due("P6 no entry of the book", x.entryCount(), 1);
    }

    /** The installment is the smallest one that holds: one cent less and the last amount due is greater. */
    private static void levelInstallment() {
        int[][] loans = {{1, 3000, 120}, {7, 0, 120}, {100, 0, 3}, {12000, 1000, 1}, {240, 500, 2}, {99999, 1, 119},
            {5000000, 777, 60}, {119, 1000, 3}, {1000, 100, 10}, {9999999, 1, 120}, {40, 3000, 7}};
        for (int[] loan : loans) {
            LoanSchedule x = Check.with("loans;open " + loan[0] + " " + loan[1] + " " + loan[2] + ";");
            String label = "P6 level of " + loan[0] + " " + loan[1] + " " + loan[2];
            int level = x.installment(0);
            CHECK.due(label + " holds", x.lastDue(0) <= level, true);
            CHECK.due(label + " last by hand", lastByHand(loan, level) <= level, true);
            CHECK.due(label + " is the smallest", level == 1 || lastByHand(loan, level - 1) > level - 1, true);
        }
    }

    private static long lastByHand(int[] loan, long installment) {
        long rest = loan[0];
        long carry = 0;
        for (int month = 1; month < loan[2]; month++) {
            long interest = (rest * loan[1] + carry) / 120000;
            carry = (rest * loan[1] + carry) % 120000;
            if (rest + interest <= installment) {
                return rest + interest;
            }
            rest += interest - installment;
        }
        return rest + (rest * loan[1] + carry) / 120000;
    }

    private static void pay() {
        LoanSchedule x = Check.with("loans;open 1000 1300 3;open 60 0 2;");
        // interest by hand: 1000 * 1300 / 120000 is 10 with 100000 left, (669 * 1300 + 100000) / 120000 is 8
        // with 9700 left, (336 * 1300 + 9700) / 120000 is 3; with 340 a month, 341 would be left for the last one
        CHECK.due("P7 level", x.installment(0), 341);
        CHECK.due("P7 first", x.pay(0), 341);
        CHECK.due("P7 behind the first", Check.loan(x, 0), "1000 669 1300 2 341 100000 10 341 1 0");
        CHECK.due("P7 book", Check.book(x), " 0:341+10");
        CHECK.due("P7 second", x.pay(0), 341);
        CHECK.due("P7 behind the second", Check.loan(x, 0), "1000 336 1300 1 341 9700 18 682 2 0");
        CHECK.due("P7 last", x.pay(0), 339);
        CHECK.due("P7 behind the last", Check.loan(x, 0), "1000 0 1300 0 0 0 21 1021 3 0");
        CHECK.due("P7 whole book", Check.book(x), " 0:339+3 0:341+8 0:341+10");
        CHECK.due("P7 other loan", Check.loan(x, 1), "60 60 0 2 30 0 0 0 0 0");
        CHECK.due("P7 undoCount", x.undoCount(), 4);
        CHECK.impossible("P7 closed", () -> x.pay(0));
        CHECK.index("P7 -1", () -> x.pay(-1));
        CHECK.index("P7 2", () -> x.pay(2));
        CHECK.index("P7 lowest", () -> x.pay(LOW));
        CHECK.index("P7 greatest", () -> x.pay(BIG));
    }

    private static void payAll() {
        LoanSchedule x = Check.with("loans;open 100 0 4;open 10 0 1;open 1000 1200 2;open 7 0 7;");
        CHECK.due("P8 all", x.payAll(), 25 + 10 + 508 + 1);
        CHECK.due("P8 book in the order of numbers", Check.book(x), " 3:1+0 2:508+10 1:10+0 0:25+0");
        CHECK.due("P8 the second closes", x.isOpen(1), false);
        CHECK.due("P8 undoCount", x.undoCount(), 2);
        CHECK.due("P8 the open ones", x.payAll(), 25 + 507 + 1);
        CHECK.due("P8 book", Check.book(x), " 3:1+0 2:507+5 0:25+0 3:1+0 2:508+10 1:10+0 0:25+0");
        CHECK.due("P8 the closed one", x.paidMonths(1), 1);
        LoanSchedule y = Check.with(CLOSED);
        CHECK.due("P8 none open", y.payAll(), 0);
        CHECK.due("P8 no entry", y.entryCount(), 1);
        CHECK.due("P8 is a change all the same", y.undoCount(), 2);
        CHECK.due("P8 no loans", Check.with("loans;").payAll(), 0);
    }

    private static void payExtra() {
        LoanSchedule x = Check.with("loans;open 1000 1300 10;open 100 0 4;");
        int installment = x.installment(0);
        x.pay(0);
        int carry = x.carry(0);
        CHECK.due("P9 has a carry", carry, 100000);
        int rest = x.balance(0);
        CHECK.due("P9 shorter", x.payExtra(0, 300, false), rest - 300);
        CHECK.due("P9 installment kept", x.installment(0), installment);
        CHECK.due("P9 carry kept", x.carry(0), carry);
        CHECK.due("P9 months", x.monthsLeft(0), x.monthsFor(0, installment));
        CHECK.due("P9 fewer months", x.monthsLeft(0), 6);
        CHECK.due("P9 book", Check.book(x), " 0:300+0 0:106+10");
        CHECK.due("P9 paidSoFar", x.paidSoFar(0), installment + 300);
        CHECK.due("P9 paidMonths", x.paidMonths(0), 1);
        CHECK.due("P9 interestSoFar", x.interestSoFar(0), 10);
        CHECK.due("P9 keeping", x.payExtra(0, 100, true), rest - 400);
        CHECK.due("P9 months kept", x.monthsLeft(0), 6);
        CHECK.due("P9 carry kept again", x.carry(0), carry);
        CHECK.due("P9 installment anew", x.installment(0), x.installmentFor(0, 6));
        CHECK.due("P9 installment is less", x.installment(0) < installment, true);
        CHECK.due("P9 down to 1", x.payExtra(0, rest - 401, false), 1);
        CHECK.due("P9 one month", x.monthsLeft(0), 1);
        CHECK.due("P9 all", x.payExtra(0, 1, true), 0);
        CHECK.due("P9 closed", Check.loan(x, 0), "1000 0 1300 0 0 0 10 1010 1 0");
        CHECK.due("P9 undoCount", x.undoCount(), 6);
        // 24 in 4 months are 6 a month; with 6 kept, 23 still take 4 months, and 18 take 3
        CHECK.due("P9 other", x.payExtra(1, 76, true), 24);
        CHECK.due("P9 other loan", Check.loan(x, 1), "100 24 0 4 6 0 0 76 0 0");
        CHECK.due("P9 other again", x.payExtra(1, 1, false), 23);
        CHECK.due("P9 other loan again", Check.loan(x, 1), "100 23 0 4 6 0 0 77 0 0");
        CHECK.due("P9 other at last", x.payExtra(1, 5, false), 18);
        CHECK.due("P9 three months", x.monthsLeft(1), 3);
    }

    private static void payExtraRefused() {
        LoanSchedule x = Check.with("loans;open 100 0 4;open 5 0 1;pay 1;");
        CHECK.argument("P9 amount 0", () -> x.payExtra(0, 0, true));
        CHECK.argument("P9 amount negative", () -> x.payExtra(0, -1, false));
        CHECK.argument("P9 amount great", () -> x.payExtra(0, 10000000, false));
        CHECK.impossible("P9 more than the balance", () -> x.payExtra(0, 101, true));
        CHECK.impossible("P9 much more", () -> x.payExtra(0, 9999999, false));
        CHECK.impossible("P9 closed", () -> x.payExtra(1, 1, false));
        CHECK.argument("P9 the argument first", () -> x.payExtra(1, 0, false));
        CHECK.index("P9 -1", () -> x.payExtra(-1, 1, true));
        CHECK.index("P9 2", () -> x.payExtra(2, 1, true));
        CHECK.index("P9 the index first", () -> x.payExtra(2, 0, true));
    }

    private static void skipMonth() {
        LoanSchedule x = Check.with("loans;open 1000 1300 3;");
        CHECK.due("P10 interest", x.skipMonth(0), 10);
        // 1010 for 3 months from the carry 100000 on
        CHECK.due("P10 behind it", Check.loan(x, 0), "1000 1010 1300 3 344 100000 10 0 0 1");
        CHECK.due("P10 no entry", x.entryCount(), 0);
        CHECK.due("P10 undoCount", x.undoCount(), 2);
        // (1010 * 1300 + 100000) / 120000 is 11 with 93000 left
        CHECK.due("P10 the next one", x.skipMonth(0), 11);
        CHECK.due("P10 carry", x.carry(0), 93000);
        CHECK.due("P10 months stay", x.monthsLeft(0), 3);
        CHECK.due("P10 level", x.installment(0), x.installmentFor(0, 3));
        LoanSchedule y = Check.with("loans;open 9 0 3;");
        CHECK.due("P10 without interest", y.skipMonth(0), 0);
        CHECK.due("P10 without interest: loan", Check.loan(y, 0), "9 9 0 3 3 0 0 0 0 1");
    }

    private static void skipMonthRefused() {
        LoanSchedule x = Check.with("loans;open 90 0 9;open 5 0 1;pay 1;open 9999999 3000 9;open 9756096 3000 9;open 9756097 3000 9;");
        for (int i = 1; i <= 6; i++) {
            CHECK.due("P10 skip " + i, x.skipMonth(0), 0);
        }
        CHECK.impossible("P10 the seventh", () -> x.skipMonth(0));
        x.pay(0);
        CHECK.impossible("P10 the seventh behind a payment", () -> x.skipMonth(0));
        CHECK.impossible("P10 closed", () -> x.skipMonth(1));
        CHECK.impossible("P10 too great", () -> x.skipMonth(2));
        // 9756096 grows by 243902 to 9999998, 9756097 by 243902 to 9999999
        CHECK.due("P10 just less", x.skipMonth(3), 243902);
        CHECK.due("P10 just as great", x.skipMonth(4), 243902);
        CHECK.due("P10 its balance", x.balance(4), 9999999);
        LoanSchedule y = Check.with("loans;open 9756098 3000 9;");
        CHECK.impossible("P10 one too great", () -> y.skipMonth(0));
        CHECK.index("P10 -1", () -> x.skipMonth(-1));
        CHECK.index("P10 5", () -> x.skipMonth(5));
    }

    private static void changeRate() {
        LoanSchedule x = Check.with("loans;open 1000 1300 3;pay 0;open 5 0 1;pay 1;");
        CHECK.due("P11 to 0", x.changeRate(0, 0), 335);
        CHECK.due("P11 behind it", Check.loan(x, 0), "1000 669 0 2 335 100000 10 341 1 0");
        CHECK.due("P11 to the greatest", x.changeRate(0, 3000), x.installmentFor(0, 2));
        CHECK.due("P11 rate", x.rate(0), 3000);
        CHECK.due("P11 dearer", x.installment(0) > 335, true);
        CHECK.due("P11 undoCount", x.undoCount(), 3);
        CHECK.due("P11 no entry", x.entryCount(), 2);
        CHECK.argument("P11 negative", () -> x.changeRate(0, -1));
        CHECK.argument("P11 great", () -> x.changeRate(0, 3001));
        CHECK.impossible("P11 closed", () -> x.changeRate(1, 5));
        CHECK.argument("P11 the argument first", () -> x.changeRate(1, 3001));
        CHECK.index("P11 -1", () -> x.changeRate(-1, 5));
        CHECK.index("P11 2", () -> x.changeRate(2, 5));
        CHECK.index("P11 the index first", () -> x.changeRate(2, -5));
    }

    private static void extendTerm() {
        LoanSchedule x = Check.with("loans;open 120 0 60;open 5 0 1;pay 1;open 1000 1300 3;pay 2;");
        CHECK.due("P12 by 60", x.extendTerm(0, 60), 1);
        CHECK.due("P12 months", x.monthsLeft(0), 120);
        CHECK.impossible("P12 beyond 120", () -> x.extendTerm(0, 1));
        CHECK.due("P12 by 1", x.extendTerm(2, 1), x.installmentFor(2, 3));
        CHECK.due("P12 behind it", Check.loan(x, 2), "1000 669 1300 3 228 100000 10 341 1 0");
        CHECK.due("P12 undoCount", x.undoCount(), 3);
        CHECK.argument("P12 0", () -> x.extendTerm(2, 0));
        CHECK.argument("P12 -1", () -> x.extendTerm(2, -1));
        CHECK.argument("P12 61", () -> x.extendTerm(2, 61));
        CHECK.argument("P12 greatest", () -> x.extendTerm(0, BIG));
        CHECK.impossible("P12 closed", () -> x.extendTerm(1, 1));
        CHECK.argument("P12 the argument first", () -> x.extendTerm(1, 61));
        CHECK.index("P12 -1", () -> x.extendTerm(-1, 1));
        CHECK.index("P12 3", () -> x.extendTerm(3, 1));
        CHECK.index("P12 the index first", () -> x.extendTerm(3, 0));
    }

    private static void refinance() {
        LoanSchedule x = Check.with("loans;open 1000 1300 3;pay 0;open 5 0 1;pay 1;");
        CHECK.due("P13 to 0", x.refinance(0, 0, 5), 134);
        CHECK.due("P13 behind it", Check.loan(x, 0), "1000 669 0 5 134 100000 10 341 1 0");
        CHECK.due("P13 one month", x.refinance(0, 1200, 1), 676);
        CHECK.due("P13 longest", x.refinance(0, 3000, 120), x.installmentFor(0, 120));
        CHECK.due("P13 months", x.monthsLeft(0), 120);
        CHECK.due("P13 undoCount", x.undoCount(), 4);
        CHECK.due("P13 no entry", x.entryCount(), 2);
        CHECK.argument("P13 rate negative", () -> x.refinance(0, -1, 5));
        CHECK.argument("P13 rate great", () -> x.refinance(0, 3001, 5));
        CHECK.argument("P13 months 0", () -> x.refinance(0, 5, 0));
        CHECK.argument("P13 months great", () -> x.refinance(0, 5, 121));
        CHECK.impossible("P13 closed", () -> x.refinance(1, 5, 5));
        CHECK.argument("P13 the argument first", () -> x.refinance(1, 5, 0));
        CHECK.index("P13 -1", () -> x.refinance(-1, 5, 5));
        CHECK.index("P13 2", () -> x.refinance(2, 5, 5));
        CHECK.index("P13 the index first", () -> x.refinance(2, -1, 0));
    }

    private static void spendExtra() {
        String loans = "loans;open 100 500 4;open 200 900 4;open 300 900 4;open 50 0 5;";
        LoanSchedule x = Check.with(loans);
        int kept = x.installment(1);
        CHECK.due("P14 a part", x.spendExtra(60), 60);
        CHECK.due("P14 the dearest, the first of two", Check.book(x), " 1:60+0");
        CHECK.due("P14 installment kept", x.installment(1), kept);
        CHECK.due("P14 months", x.monthsLeft(1), x.monthsFor(1, kept));
        CHECK.due("P14 three months", x.monthsLeft(1), 3);
        CHECK.due("P14 just a loan", x.spendExtra(140), 140);
        CHECK.due("P14 one entry", Check.book(x), " 1:140+0 1:60+0");
        CHECK.due("P14 over two", x.spendExtra(310), 310);
        CHECK.due("P14 the next ones", Check.book(x), " 0:10+0 2:300+0 1:140+0 1:60+0");
        CHECK.due("P14 undoCount", x.undoCount(), 4);
        CHECK.due("P14 more than all", x.spendExtra(9999999), 140);
        CHECK.due("P14 book", Check.book(x), " 3:50+0 0:90+0 0:10+0 2:300+0 1:140+0 1:60+0");
        CHECK.due("P14 none open", x.spendExtra(1), 0);
        CHECK.due("P14 is a change all the same", x.undoCount(), 6);
        CHECK.due("P14 no entry", x.entryCount(), 6);
        CHECK.argument("P14 0", () -> x.spendExtra(0));
        CHECK.argument("P14 negative", () -> x.spendExtra(LOW));
        CHECK.argument("P14 great", () -> x.spendExtra(10000000));
        LoanSchedule six = Check.with("loans;open 7 6 1;open 6 5 1;open 5 4 1;open 4 3 1;open 3 2 1;open 2 1 1;");
        CHECK.due("P14 six loans", six.spendExtra(100), 27);
        CHECK.due("P14 six entries", Check.book(six), " 5:2+0 4:3+0 3:4+0 2:5+0 1:6+0 0:7+0");
        CHECK.due("P14 no loans", Check.with("loans;").spendExtra(5), 0);
    }
}

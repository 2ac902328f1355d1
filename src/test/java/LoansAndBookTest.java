/** Promises 21 to 39: what is told of the loans and of the book. */
public final class LoansAndBookTest {
    private static final Check CHECK = new Check("LoansAndBookTest");
    private static final String[] NAMES = {"isOpen", "principal", "balance", "rate", "monthsLeft", "installment", "carry",
        "interestDue", "amountDue", "interestSoFar", "paidSoFar", "paidMonths", "skippedMonths"};

    public static void main(String[] args) {
        counts();
        answers();
        interestAndAmountDue();
        wrongNumbers();
        book();
        bookRing();
        CHECK.end();
    }

    private static Object ask(LoanSchedule x, String name, int loan) {
        switch (name) {
            case "isOpen": return x.isOpen(loan);
            case "principal": return x.principal(loan);
            case "balance": return x.balance(loan);
            case "rate": return x.rate(loan);
            case "monthsLeft": return x.monthsLeft(loan);
            case "installment": return x.installment(loan);
            case "carry": return x.carry(loan);
            case "interestDue": return x.interestDue(loan);
            case "amountDue": return x.amountDue(loan);
            case "interestSoFar": return x.interestSoFar(loan);
            case "paidSoFar": return x.paidSoFar(loan);
            case "paidMonths": return x.paidMonths(loan);
            default: return x.skippedMonths(loan);
        }
    }

    private static void counts() {
        LoanSchedule x = Check.with("loans;");
        CHECK.due("P21 none", x.loanCount(), 0);
        CHECK.due("P22 none", x.openCount(), 0);
        for (int i = 1; i <= 6; i++) {
            x.openLoan(i, 0, 1);
            CHECK.due("P21 " + i, x.loanCount(), i);
            CHECK.due("P22 " + i, x.openCount(), i);
        }
        x.pay(4);
        CHECK.due("P21 closed ones count", x.loanCount(), 6);
        CHECK.due("P22 closed ones do not", x.openCount(), 5);
        x.payAll();
        CHECK.due("P22 all closed", x.openCount(), 0);
        CHECK.due("P21 all closed", x.loanCount(), 6);
    }

    private static void answers() {
        // 1010 at 1300 with the carry 100000: 11 of interest and 93000 left; 1021 - 344 - 100 is 577
        LoanSchedule x = Check.with("loans;open 70 0 7;open 1000 1300 3;skip 1;pay 1;extra 1 100 keep;open 5 9 1;pay 2;");
        Object[][] due = {
            {true, 70, 70, 0, 7, 10, 0, 0, 10, 0, 0, 0, 0},
            {true, 1000, 577, 1300, 2, 294, 93000, 7, 294, 21, 444, 1, 1},
            {false, 5, 0, 9, 0, 0, 0, 0, 0, 0, 5, 1, 0}};
        for (int loan = 0; loan < 3; loan++) {
            for (int i = 0; i < NAMES.length; i++) {
                CHECK.due("P" + (23 + i) + " " + NAMES[i] + "(" + loan + ")", ask(x, NAMES[i], loan), due[loan][i]);
            }
        }
    }

    private static void interestAndAmountDue() {
        // 119 * 1000 is just below 120000, so the first interest is 0 and the carry brings it later
        LoanSchedule x = Check.with("loans;open 119 1000 3;");
        CHECK.due("P30 rounded down", x.interestDue(0), 0);
        x.skipMonth(0);
        CHECK.due("P29 carried", x.carry(0), 119000);
        CHECK.due("P30 with the carry", x.interestDue(0), 1);
        CHECK.due("P31 installment", x.amountDue(0), x.installment(0));
        // the whole is due at last, and as soon as it is not greater than the installment
        LoanSchedule y = Check.with("loans;open 10 0 4;repeat 3(pay 0;);open 5 0 12;repeat 4(pay 1;);open 100 1200 1;");
        CHECK.due("P31 the rest", y.amountDue(0), 1);
        CHECK.due("P28 above it", y.installment(0), 3);
        CHECK.due("P31 before the months end", y.amountDue(1), 1);
        CHECK.due("P27 months are left", y.monthsLeft(1), 8);
        CHECK.due("P31 one month", y.amountDue(2), 101);
        CHECK.due("P31 as the payment", y.pay(2), 101);
        CHECK.due("P32 its interest", y.interestSoFar(2), 1);
        // 2, 2 and 1: the whole is less than the installment, and a month is left besides
        LoanSchedule w = Check.with("loans;open 5 0 4;pay 0;pay 0;");
        CHECK.due("P27 two left", w.monthsLeft(0), 2);
        CHECK.due("P31 less than the installment", w.amountDue(0), 1);
        CHECK.due("P31 paid", w.pay(0), 1);
        CHECK.due("P23 closed before its months end", Check.loan(w, 0), "5 0 0 0 0 0 0 5 3 0");
        // a skipped month costs interest, but is no payment
        LoanSchedule z = Check.with("loans;open 10000 1200 5;skip 0;skip 0;pay 0;skip 0;");
        CHECK.due("P32 all months", z.interestSoFar(0), 100 + 101 + 102 + 82);
        CHECK.due("P32 sums up", z.interestSoFar(0), z.balance(0) + z.paidSoFar(0) - z.principal(0));
        CHECK.due("P35 three", z.skippedMonths(0), 3);
        CHECK.due("P34 one", z.paidMonths(0), 1);
        z.payExtra(0, 5, true);
        z.spendExtra(5);
        CHECK.due("P34 extra payments do not count", z.paidMonths(0), 1);
        CHECK.due("P33 extra payments count", z.paidSoFar(0), z.entryAmount(2) + 10);
    }

    private static void wrongNumbers() {
        LoanSchedule x = new LoanSchedule();
        LoanSchedule none = Check.with("loans;");
        for (int i = 0; i < NAMES.length; i++) {
            String name = NAMES[i];
            for (int loan : new int[] {-1, 3, 6, Integer.MAX_VALUE, Integer.MIN_VALUE}) {
                CHECK.index("P" + (23 + i) + " " + name + "(" + loan + ")", () -> ask(x, name, loan));
            }
            CHECK.index("P" + (23 + i) + " " + name + "(0) without loans", () -> ask(none, name, 0));
        }
    }

    private static void book() {
        LoanSchedule x = Check.with("loans;open 1000 1300 3;open 40 0 4;");
        CHECK.due("P36 empty", x.entryCount(), 0);
        CHECK.due("P37 empty", x.entryLoan(0), -1);
        CHECK.due("P38 empty", x.entryAmount(0), -1);
        CHECK.due("P39 empty", x.entryInterest(0), -1);
        x.skipMonth(0);
        x.changeRate(1, 0);
        CHECK.due("P36 no payment", x.entryCount(), 0);
        x.pay(0);
        x.payExtra(1, 7, true);
        CHECK.due("P36 two", x.entryCount(), 2);
        CHECK.due("P37 latest", x.entryLoan(0), 1);
        CHECK.due("P38 latest", x.entryAmount(0), 7);
        CHECK.due("P39 latest", x.entryInterest(0), 0);
        CHECK.due("P37 before", x.entryLoan(1), 0);
        CHECK.due("P38 before", x.entryAmount(1), 344);
        CHECK.due("P39 before", x.entryInterest(1), 11);
        for (int back : new int[] {2, 20, Integer.MAX_VALUE, -1, Integer.MIN_VALUE}) {
            CHECK.due("P37 " + back, x.entryLoan(back), -1);
            CHECK.due("P38 " + back, x.entryAmount(back), -1);
            CHECK.due("P39 " + back, x.entryInterest(back), -1);
        }
    }

    private static void bookRing() {
        String loans = "loans;open 1000 0 100;open 9999 3000 100;";
        for (int i = 1; i <= 45; i++) {
            LoanSchedule x = Check.with(loans);
            for (int payment = 1; payment <= i; payment++) {
                x.payExtra(payment % 2, payment, true);
            }
            int kept = Math.min(i, 20);
            CHECK.due("P36 behind " + i, x.entryCount(), kept);
            for (int back = 0; back < kept; back++) {
                CHECK.due("P38 " + i + " back " + back, x.entryAmount(back), i - back);
                CHECK.due("P37 " + i + " back " + back, x.entryLoan(back), (i - back) % 2);
            }
            CHECK.due("P38 not kept behind " + i, x.entryAmount(kept), -1);
            CHECK.due("P37 not kept behind " + i, x.entryLoan(kept), -1);
            CHECK.due("P39 not kept behind " + i, x.entryInterest(kept), -1);
        }
        LoanSchedule x = Check.with(loans);
        int interest = x.interestDue(1);
        x.payAll();
        CHECK.due("P39 of the second", x.entryInterest(0), interest);
        CHECK.due("P39 of the first", x.entryInterest(1), 0);
        CHECK.due("P39 has one", interest > 0, true);
    }
}

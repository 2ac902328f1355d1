/** The sentences of "Terms" about loans, interest, payments and the level installment, and the 512 calls. */
final class EdgesOfTerms {
    private final Edges edges;

    EdgesOfTerms(Edges edges) {
        this.edges = edges;
    }

    void run() {
        edges.sentence(0, "`NONE = -1`", () -> edges.due("NONE", LoanSchedule.NONE, -1));
        edges.sentence(0, "Returned if there is no such value.", this::noSuchValue);
        edges.sentence(0, "`NO_ROOM = -2`", () -> edges.due("NO_ROOM", LoanSchedule.NO_ROOM, -2));
        edges.sentence(0, "Returned by append() if the input buffer is full.", this::fullInput);
        edges.sentence(0, "An object is used for at most 512 calls after it has been made", this::manyCalls);
        edges.sentence(0, "Rates are basis points per year (1 basis point is 1/10000).", this::basisPoint);
        edges.sentence(0, "A loan has a principal (1 to 9999999), a balance, a rate (0 to 3000), a number of months left, an installment "
            + "and a carry.", this::extremeLoans);
        edges.sentence(0, "It is open while its balance is greater than 0, and closed otherwise.", this::openOrClosed);
        edges.sentence(0, "A closed loan has 0 months left, the installment 0 and the carry 0.", this::closedLoan);
        edges.sentence(0, "At most 6 loans can be opened; they are numbered from 0.", this::sixLoans);
        edges.sentence(0, "The interest of the next month of a loan is (balance times rate plus carry) divided by 120000, rounded down.",
            this::interest);
        edges.sentence(0, "The new carry is the remainder of this division.", this::newCarry);
        edges.sentence(0, "When a loan is opened, its carry is 0.", this::firstCarry);
        edges.sentence(0, "The amount due of the next month is the balance plus the interest if that is not greater than the installment "
            + "or if the loan has 1 month left; otherwise it is the installment.", this::amountDue);
        edges.sentence(0, "When the amount due is paid, the balance grows by the interest and becomes less by the amount due, the carry "
            + "becomes the new carry, and the months left become 1 less; if the balance is 0 then, the loan is closed.", this::payment);
        edges.sentence(0, "The installment of an open loan is calculated when it is opened and whenever it is told below: it is the "
            + "smallest amount such that, if it was the installment, no month of the months left would have an amount due that is "
            + "greater than it.", this::levelInstallment);
    }

    private void noSuchValue() {
        LoanSchedule x = Check.with("loans;open 10 1200 1;pay 0;");
        int[] none = {new LoanSchedule().undo(), x.scriptErrorOffset(), x.entryLoan(1), x.entryAmount(1), x.entryInterest(1),
            x.interestOfPayment(0, 1), x.amountOfPayment(0, 1), x.dearestLoan(), x.smallestLoan(), x.reportByte(0), x.runScript()};
        for (int i = 0; i < none.length; i++) {
            edges.due("value " + i, none[i], -1);
        }
    }

    private void fullInput() {
        LoanSchedule x = new LoanSchedule();
        for (int i = 0; i < 25; i++) {
            edges.due("append " + i, x.append(0, 0, 0, 0, 0), 20 * i + 20);
        }
        edges.due("full", x.append(0, 0, 0, 0, 0), -2);
        edges.due("full still", x.append(0, 0, 0, 0, 0), -2);
    }

    private void manyCalls() {
        // 508 changes; the last four of the 512 calls are questions
        LoanSchedule x = new LoanSchedule();
        for (int i = 0; i < 508; i++) {
            x.payExtra(0, 1, i % 2 == 0);
        }
        edges.due("balance", x.balance(0), 90272 - 508);
        edges.due("paidSoFar", x.paidSoFar(0), 30328 + 508);
        edges.due("entryCount", x.entryCount(), 20);
        edges.due("undo", x.undo(), 7);
        // as much interest as that many calls can cost: 255 times a month of the greatest loan
        LoanSchedule y = Check.with("loans;open 9999999 3000 120;");
        long interest = 0;
        for (int i = 0; i < 250; i++) {
            interest += y.interestDue(0);
            y.pay(0);
            if (i % 100 == 99) {
                y.refinance(0, 3000, 120);
            }
        }
        edges.due("interestSoFar", (long) y.interestSoFar(0), interest);
        edges.due("paidSoFar and balance", (long) y.paidSoFar(0) + y.balance(0), 9999999 + interest);
        LoanSchedule z = new LoanSchedule();
        for (int i = 0; i < 127; i++) {
            z.append(0x6c6f616e, 0x733b2020, 0x20202020, 0x20202020, 0x20202020);
            edges.due("script " + i, z.runScript(), 0);
            z.openLoan(i + 1, 0, 1);
            edges.due("loan " + i, z.principal(0), i + 1);
        }
        edges.due("undoCount behind scripts", z.undoCount(), 8);
    }

    private void basisPoint() {
        // 12000 for a year at one basis point: 1.2 cents, which the months bring as 0.1 cents each
        LoanSchedule x = Check.with("loans;open 12000 1 12;");
        edges.due("interest of a month", x.interestDue(0), 0);
        x.skipMonth(0);
        edges.due("a tenth of a cent is carried", x.carry(0), 12000);
        LoanSchedule y = Check.with("loans;open 120000 1 12;");
        edges.due("a whole cent", y.interestDue(0), 1);
    }

    private void extremeLoans() {
        LoanSchedule x = Check.with("loans;open 1 0 1;open 1 3000 120;open 9999999 0 1;open 9999999 3000 1;open 9999999 3000 120;open 9999999 0 120;");
        String[] due = {"1 1 0 1 1 0 0 0 0 0", "1 1 3000 120 1 0 0 0 0 0", "9999999 9999999 0 1 9999999 0 0 0 0 0",
            "9999999 9999999 3000 1 10249998 0 0 0 0 0", "9999999 9999999 3000 120 263618 0 0 0 0 0", "9999999 9999999 0 120 83334 0 0 0 0 0"};
        for (int i = 0; i < due.length; i++) {
            edges.due("loan " + i, Check.loan(x, i), due[i]);
        }
        String[] refused = {"loans;open ^0 0 1;", "loans;open 1 ^3001 1;", "loans;open 1 0 ^0;", "loans;open 1 0 ^121;"};
        for (String script : refused) {
            edges.bad(script, 2);
        }
    }

    private void openOrClosed() {
        LoanSchedule x = Check.with("loans;open 7 0 1;");
        edges.due("7", x.isOpen(0), true);
        x.payExtra(0, 6, true);
        edges.due("1", x.balance(0) + " " + x.isOpen(0) + " " + x.openCount(), "1 true 1");
        x.payExtra(0, 1, true);
        edges.due("0", x.balance(0) + " " + x.isOpen(0) + " " + x.openCount(), "0 false 0");
        x.undo();
        edges.due("1 again", x.isOpen(0), true);
    }

    /** Five ways to close a loan that has months, an installment and a carry left. */
    private void closedLoan() {
        String loan = "loans;open 1000 1300 5;skip 0;";
        Edges.Call[] ways = {x -> x.payExtra(0, 1010, true), x -> x.payExtra(0, 1010, false), x -> x.spendExtra(1010),
            x -> x.refinance(0, 1300, 1) + x.pay(0), x -> x.refinance(0, 1300, 1) + x.payAll(), x -> Check.run(x, loan + "extra 0 1010;")};
        for (int i = 0; i < ways.length; i++) {
            LoanSchedule x = Check.with(loan);
            edges.due("carry before " + i, x.carry(0), 100000);
            ways[i].on(x);
            edges.due("way " + i, x.balance(0) + " " + x.monthsLeft(0) + " " + x.installment(0) + " " + x.carry(0), "0 0 0 0");
            edges.due("way " + i + " keeps the rest", x.principal(0) + " " + x.rate(0) + " " + x.skippedMonths(0), "1000 1300 1");
        }
        // paid before its months end: 2, 2 and 1 of 4
        LoanSchedule y = Check.with("loans;open 5 0 4;repeat 3(pay 0;);");
        edges.due("a month is left over", Check.loan(y, 0), "5 0 0 0 0 0 0 5 3 0");
    }

    private void sixLoans() {
        LoanSchedule x = Check.with("loans;");
        for (int i = 0; i < 6; i++) {
            edges.due("number " + i, x.openLoan(10 + i, 0, 1), i);
        }
        for (int i = 0; i < 6; i++) {
            edges.due("principal " + i, x.principal(i), 10 + i);
        }
        edges.due("a seventh", Edges.answer(x, y -> y.openLoan(5, 0, 1)), "throws.IllegalStateException");
        edges.good("loans;repeat 6(open 5 0 1;);", 6);
        edges.bad("loans;repeat 7(open 5 0 1^;);", 3);
        x.undo();
        edges.due("the sixth again", x.openLoan(5, 0, 1), 5);
    }

    private void interest() {
        // 10909 times 11 is 119999, 120 times 1000 is 120000, 9999999 times 3000 needs more than 32 bits
        LoanSchedule x = Check.with("loans;open 10909 11 9;open 120 1000 9;open 9999999 3000 9;open 9999999 0 9;open 1 3000 9;open 239 1000 9;");
        int[] due = {0, 1, 249999, 0, 0, 1};
        for (int i = 0; i < due.length; i++) {
            edges.due("loan " + i, x.interestDue(i), due[i]);
        }
        // the greatest carry and the least product: 119999 + 1 makes a cent, 119999 + 0 does not
        LoanSchedule y = Check.with("loans;open 10909 11 9;skip 0;extra 0 10908;");
        edges.due("carry", y.balance(0) + " " + y.carry(0), "1 119999");
        y.changeRate(0, 0);
        edges.due("119999", y.interestDue(0), 0);
        y.changeRate(0, 1);
        edges.due("120000", y.interestDue(0), 1);
    }

    private void newCarry() {
        // 9999999 times 3000 is 249999 times 120000 and 117000
        LoanSchedule x = Check.with("loans;open 10909 11 9;open 120 1000 9;open 9999999 3000 9;open 239 1000 9;");
        x.payAll();
        int[] left = {119999, 0, 117000, 119000};
        for (int i = 0; i < left.length; i++) {
            edges.due("carry of " + i, x.carry(i), left[i]);
        }
        // 119999 + 119999 is a cent and 119998
        Check.run(x, "loans;open 10909 11 9;skip 0;skip 0;");
        edges.due("second", x.carry(0) + " " + x.balance(0) + " " + x.interestSoFar(0), "119998 10910 1");
        LoanSchedule y = Check.with("loans;open 10909 11 9;skip 0;extra 0 10908;rate 0 1;skip 0;");
        edges.due("wrapped to 0", y.carry(0) + " " + y.balance(0), "0 2");
    }

    private void firstCarry() {
        LoanSchedule x = Check.with("loans;open 10909 11 9;skip 0;");
        x.openLoan(10909, 11, 9);
        edges.due("the next number", x.carry(1), 0);
        Check.run(x, "loans;open 10909 11 9;");
        edges.due("the same number anew", x.carry(0), 0);
        x.undo();
        x.undo();
        x.undo();
        x.openLoan(10909, 11, 9);
        edges.due("a number that was undone", x.carry(x.loanCount() - 1), 0);
    }

    private void amountDue() {
        LoanSchedule x = Check.with("loans;open 3 0 2;open 4 0 2;open 5 0 4;open 1000 1200 1;open 10 0 4;open 9999999 3000 1;");
        edges.due("one more than the installment", x.amountDue(0) + " of " + x.installment(0), "2 of 2");
        x.pay(0);
        edges.due("one less, 1 month left", x.amountDue(0) + " " + x.monthsLeft(0), "1 1");
        x.pay(1);
        edges.due("just the installment, 1 month left", x.amountDue(1) + " " + x.monthsLeft(1), "2 1");
        x.pay(2);
        x.pay(2);
        edges.due("one less, 2 months left", x.amountDue(2) + " " + x.monthsLeft(2), "1 2");
        edges.due("1 month with interest", x.amountDue(3), 1010);
        edges.due("the greatest", x.amountDue(5), 10249998);
        // the installment 3 for 10: after 7 are paid off, 3 are just the installment with months left
        x.payExtra(4, 4, false);
        x.pay(4);
        edges.due("just the installment", x.balance(4) + " " + x.installment(4) + " " + x.amountDue(4), "3 3 3");
        // with interest the whole is greater than the installment though the balance is not
        LoanSchedule y = Check.with("loans;open 2000 1200 2;pay 0;");
        edges.due("interest counts", y.amountDue(0) + " " + y.balance(0) + " " + y.interestDue(0), "1015 1005 10");
    }

    private void payment() {
        LoanSchedule x = Check.with("loans;open 1000 1300 3;");
        edges.due("first", x.pay(0) + " " + Check.loan(x, 0), "341 1000 669 1300 2 341 100000 10 341 1 0");
        edges.due("second", x.pay(0) + " " + Check.loan(x, 0), "341 1000 336 1300 1 341 9700 18 682 2 0");
        edges.due("third closes", x.pay(0) + " " + Check.loan(x, 0), "339 1000 0 1300 0 0 0 21 1021 3 0");
        LoanSchedule y = Check.with("loans;open 3 0 2;pay 0;");
        edges.due("1 is open still", y.balance(0) + " " + y.isOpen(0), "1 true");
        y.pay(0);
        edges.due("0 is closed", y.balance(0) + " " + y.isOpen(0), "0 false");
    }

    private void levelInstallment() {
        int[] rates = {0, 1, 600, 2999, 3000};
        int[] months = {1, 2, 3, 7, 12, 119, 120};
        int[] principals = {1, 2, 3, 6, 7, 8, 11, 12, 13, 119, 120, 121, 999, 10909, 1234567, 9999998, 9999999};
        for (int rate : rates) {
            for (int month : months) {
                LoanSchedule x = Check.with("loans;");
                for (int i = 0; i < principals.length; i++) {
                    if (i % 6 == 0) {
                        Check.run(x, "loans;");
                    }
                    x.openLoan(principals[i], rate, month);
                    edges.due(principals[i] + " " + rate + " " + month, Edges.isLevel(x, i % 6), true);
                }
            }
        }
        // from a carry on: balance 1 with the carry 119999 costs a cent in its first month
        LoanSchedule y = Check.with("loans;open 10909 11 9;skip 0;extra 0 10908 keep;rate 0 1;");
        edges.due("nine months", y.installment(0), 1);
        edges.due("two months", y.refinance(0, 1, 2), 1);
        edges.due("one month", y.refinance(0, 1, 1), 2);
        edges.due("one month without", y.refinance(0, 0, 1), 1);
    }
}

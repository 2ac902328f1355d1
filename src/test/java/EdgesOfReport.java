/** Promises 61 to 65: ratios, checks and the report. */
final class EdgesOfReport {
    private final Edges edges;

    EdgesOfReport(Edges edges) {
        this.edges = edges;
    }

    void run() {
        edges.sentence(61, "Returns the sum over all loans of the balance times the rate, divided by totalBalance(), both converted to double; 0.0 if the "
            + "latter is 0.", this::averageRate);
        edges.sentence(62, "Returns the number of closed loans divided by the number of loans, both converted to float; 0.0f without loans.",
            this::closedShare);
        edges.sentence(63, "Returns the number of violations: loans whose principal plus interestSoFar() minus paidSoFar() is not their balance, loans "
            + "whose carry is not 0 to 119999, and open loans whose last amount due is greater than their installment; it is always 0.", this::violations);
        edges.sentence(64, "Writes the next payments of amounts due of a loan as a report, in place of the previous report: at most 12 payments, separated "
            + "by spaces, each as its amount, a \"+\" and the interest in it if that is not 0, and, if the loan is closed by it, a \"!\"; a hyphen if the "
            + "loan is closed.", this::writeSchedule);
        edges.sentence(64, "Returns the length of the report in bytes.", this::length);
        edges.sentence(65, "Returns a byte of the report.", this::bytes);
        edges.sentence(65, "- `index`: the index of the byte, from 0", this::firstByte);
        edges.sentence(65, "Returns the byte, or NONE if the report has no such byte or nothing was written.", this::noSuchByte);
    }

    private void averageRate() {
        edges.due("no loans", Check.with("loans;").averageRate(), 0.0);
        edges.due("all closed", Check.with("loans;open 5 3000 1;open 9 7 1;all;").averageRate(), 0.0);
        edges.due("a rate of 0", Check.with("loans;open 5 0 1;").averageRate(), 0.0);
        edges.due("one loan", Check.with("loans;open 1 3000 1;").averageRate(), 3000.0);
        edges.due("a third", Check.with("loans;open 1 1 1;open 2 0 1;").averageRate(), 1.0 / 3.0);
        edges.due("a closed one is left out", Check.with("loans;open 5 3000 1;open 7 700 7;open 5 400 1;pay 0;pay 2;").averageRate(), 700.0);
        // 9999999 times 3000, six times, is more than 32 bits hold
        edges.due("the greatest", Check.with("loans;repeat 6(open 9999999 3000 120;);").averageRate(), 3000.0);
        edges.due("the greatest but one", Check.with("loans;repeat 5(open 9999999 3000 120;);open 9999999 2999 120;").averageRate(),
            (9999999.0 * 3000.0 * 5.0 + 9999999.0 * 2999.0) / 59999994.0);
    }

    private void closedShare() {
        edges.due("no loans", Check.with("loans;").closedShare(), 0.0f);
        LoanSchedule x = Check.with("loans;");
        for (int i = 0; i < 6; i++) {
            x.openLoan(i + 1, 0, i + 1);
            edges.due("none of " + (i + 1), x.closedShare(), 0.0f);
        }
        for (int i = 1; i <= 6; i++) {
            x.payAll();
            edges.due(i + " of 6", x.closedShare(), (float) i / 6.0f);
        }
        edges.due("two of three", Check.with("loans;open 5 0 1;open 5 0 1;open 5 0 5;all;").closedShare(), 2.0f / 3.0f);
    }

    private void violations() {
        String[] scripts = {"loans;", "loans;open 1 0 1;", "loans;open 9999999 3000 120;repeat 24(pay 0;);", "loans;open 5 0 1;pay 0;",
            "loans;open 10909 11 9;repeat 6(skip 0;);extra 0 10908;rate 0 1;", "loans;open 9999999 3000 1;pay 0;open 9756097 3000 9;skip 1;extra 1 1;",
            "loans;repeat 6(open 5000000 2999 119;);repeat 9(all;);repeat 5(skip 5;rate 5 0;rate 5 3000;);extend 5 10;", "loans;open 5 0 4;repeat 3(pay 0;);"};
        for (String script : scripts) {
            edges.due(script, Check.with(script).violations(), 0);
        }
        LoanSchedule x = new LoanSchedule();
        edges.due("new", x.violations(), 0);
        for (int i = 1; i <= 6; i++) {
            x.payExtra(0, 1000 + i, i % 2 == 0);
            x.refinance(1, 500 * i, 20 * i);
            x.payAll();
            edges.due("change " + i, x.violations(), 0);
        }
    }

    private static String report(String script, int loan) {
        LoanSchedule x = Check.with(script);
        x.writeSchedule(loan);
        return Edges.text(x);
    }

    private void writeSchedule() {
        edges.due("closed", report("loans;open 5 0 1;pay 0;", 0), "-");
        edges.due("one payment", report("loans;open 5 0 1;", 0), "5!");
        edges.due("one payment with interest", report("loans;open 40 3000 1;", 0), "41+1!");
        edges.due("interest of 0 is left out", report("loans;open 119 1000 3;", 0), "40 40+1 40!");
        edges.due("interest from 1 on", report("loans;open 120 1000 3;", 0), "41+1 41 39!");
        edges.due("eleven payments", report("loans;open 11 0 11;", 0), "1 1 1 1 1 1 1 1 1 1 1!");
        edges.due("twelve payments", report("loans;open 12 0 12;", 0), "1 1 1 1 1 1 1 1 1 1 1 1!");
        edges.due("thirteen payments", report("loans;open 13 0 13;", 0), "1 1 1 1 1 1 1 1 1 1 1 1");
        edges.due("120 payments", report("loans;open 120 0 120;", 0), "1 1 1 1 1 1 1 1 1 1 1 1");
        edges.due("before its months end", report("loans;open 5 0 4;", 0), "2 2 1!");
        edges.due("the greatest amount", report("loans;open 9999999 3000 1;", 0), "10249998+249999!");
        edges.due("tens and hundreds", report("loans;open 1110 0 4;extra 0 1;", 0), "278 278 278 275!");
        edges.due("noughts at the end", report("loans;open 3000000 0 3;", 0), "1000000 1000000 1000000!");
        edges.due("nines", report("loans;open 9999999 0 1;", 0), "9999999!");
        String[] scripts = {"loans;open 9999999 3000 120;", "loans;open 10909 11 12;skip 0;", "loans;open 1000 1300 3;"};
        for (String script : scripts) {
            edges.due(script, report(script, 0), dues(script));
        }
        LoanSchedule x = Check.with("loans;open 1000 1300 3;open 5 0 1;pay 1;");
        x.writeSchedule(0);
        x.writeSchedule(1);
        edges.due("in place of a longer one", Edges.text(x), "-");
        x.writeSchedule(0);
        edges.due("in place of a shorter one", Edges.text(x), "341+10 341+8 339+3!");
        Edges.answer(x, y -> y.writeSchedule(2));
        edges.due("a refused one", Edges.text(x), "341+10 341+8 339+3!");
    }

    /** The report by paying. */
    private static String dues(String script) {
        LoanSchedule x = Check.with(script);
        StringBuilder s = new StringBuilder();
        for (int i = 0; i < 12 && x.isOpen(0); i++) {
            int interest = x.interestDue(0);
            s.append(i == 0 ? "" : " ").append(x.pay(0)).append(interest == 0 ? "" : "+" + interest).append(x.isOpen(0) ? "" : "!");
        }
        return s.toString();
    }

    private void length() {
        LoanSchedule x = Check.with("loans;open 1000 1300 3;open 5 0 1;pay 1;open 9 0 9;open 9999999 3000 120;open 9 0 1;");
        edges.due("three", x.writeSchedule(0), 19);
        edges.due("closed", x.writeSchedule(1), 1);
        edges.due("nine", x.writeSchedule(2), 18);
        edges.due("twelve long ones", x.writeSchedule(3), 12 * 13 + 11);
        edges.due("one", x.writeSchedule(4), 2);
    }

    private void bytes() {
        LoanSchedule x = Check.with("loans;open 1000 1300 3;");
        x.writeSchedule(0);
        String due = "341+10 341+8 339+3!";
        for (int i = 0; i < due.length(); i++) {
            edges.due("byte " + i, x.reportByte(i), (int) due.charAt(i));
        }
        x.pay(0);
        edges.due("stays as it was written", Edges.text(x), due);
        Check.run(x, "loans;open 1000 1300 3;?");
        edges.due("stays behind an error", Edges.text(x), due);
    }

    private void firstByte() {
        LoanSchedule x = Check.with("loans;open 5 0 1;pay 0;open 7 0 1;");
        x.writeSchedule(0);
        edges.due("hyphen", x.reportByte(0) + " " + x.reportByte(1), "45 -1");
        x.writeSchedule(1);
        edges.due("amount", x.reportByte(0) + " " + x.reportByte(1) + " " + x.reportByte(2), "55 33 -1");
    }

    private void noSuchByte() {
        LoanSchedule x = Check.with("loans;open 1000 1300 3;open 5 0 1;pay 1;");
        int[] indexes = {-1, Edges.LOW, Edges.BIG, 19, 20, 255, 256, 500};
        for (int index : indexes) {
            edges.due("nothing was written, " + index, x.reportByte(index), -1);
        }
        edges.due("nothing was written, 0", x.reportByte(0), -1);
        x.writeSchedule(0);
        for (int index : indexes) {
            edges.due("no byte " + index, x.reportByte(index), -1);
        }
        edges.due("the last one", x.reportByte(18), 33);
        x.writeSchedule(1);
        edges.due("behind a shorter one", x.reportByte(0) + " " + x.reportByte(1) + " " + x.reportByte(18), "45 -1 -1");
    }
}

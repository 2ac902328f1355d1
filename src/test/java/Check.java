/** Counts the answers of one test that are not as due, and prints them. */
final class Check {
    interface Call {
        Object run();
    }

    private final String test;
    private int asked = 0;
    private int wrong = 0;

    Check(String test) {
        this.test = test;
    }

    void due(String label, Object got, Object want) {
        asked++;
        if (!got.equals(want)) {
            wrong++;
            System.out.println(test + ": " + label + " answered " + got + ", due is " + want);
        }
    }

    void refused(String label, Class<?> want, Call call) {
        String got;
        try {
            got = String.valueOf(call.run());
        } catch (RuntimeException e) {
            got = e.getClass().getName();
        }
        due(label, got, want.getName());
    }

    void index(String label, Call call) {
        refused(label, IndexOutOfBoundsException.class, call);
    }

    void argument(String label, Call call) {
        refused(label, IllegalArgumentException.class, call);
    }

    void impossible(String label, Call call) {
        refused(label, IllegalStateException.class, call);
    }

    void end() {
        System.out.println(test + ": " + (asked - wrong) + " of " + asked + " answers are as due");
        if (wrong > 0) {
            System.exit(1);
        }
    }

    // ---- objects to ask

    /** A new object after a script without an error, with nothing but that script to be undone. */
    static LoanSchedule with(String script) {
        LoanSchedule x = new LoanSchedule();
        if (run(x, script) == LoanSchedule.NONE) {
            throw new IllegalArgumentException("a script with an error: " + script);
        }
        return x;
    }

    static int run(LoanSchedule x, String script) {
        load(x, script);
        return x.runScript();
    }

    static void load(LoanSchedule x, String text) {
        x.truncateInput(0);
        for (int i = 0; i < text.length(); i += 20) {
            x.append(word(text, i), word(text, i + 4), word(text, i + 8), word(text, i + 12), word(text, i + 16));
        }
        x.truncateInput(text.length());
    }

    private static int word(String text, int from) {
        int word = 0;
        for (int i = from; i < from + 4; i++) {
            word = word << 8 | (i < text.length() ? text.charAt(i) & 255 : 32);
        }
        return word;
    }

    /** Everything that undo restores. */
    static String plan(LoanSchedule x) {
        StringBuilder s = new StringBuilder();
        for (int i = 0; i < x.loanCount(); i++) {
            s.append(loan(x, i)).append(';');
        }
        s.append(" book").append(book(x));
        return s.toString();
    }

    static String state(LoanSchedule x) {
        StringBuilder report = new StringBuilder();
        for (int i = 0; x.reportByte(i) >= 0; i++) {
            report.append((char) x.reportByte(i));
        }
        return plan(x) + " undo " + x.undoCount() + " input " + x.inputLength() + " error " + x.scriptErrorKind() + " "
            + x.scriptErrorOffset() + " report " + report;
    }

    /** principal balance rate months installment carry interestSoFar paidSoFar paidMonths skippedMonths */
    static String loan(LoanSchedule x, int i) {
        return x.principal(i) + " " + x.balance(i) + " " + x.rate(i) + " " + x.monthsLeft(i) + " " + x.installment(i)
            + " " + x.carry(i) + " " + x.interestSoFar(i) + " " + x.paidSoFar(i) + " " + x.paidMonths(i) + " "
            + x.skippedMonths(i);
    }

    /** loan:amount+interest of each entry, the latest one first */
    static String book(LoanSchedule x) {
        StringBuilder s = new StringBuilder();
        for (int i = 0; i < x.entryCount(); i++) {
            s.append(' ').append(x.entryLoan(i)).append(':').append(x.entryAmount(i)).append('+').append(x.entryInterest(i));
        }
        return s.toString();
    }
}

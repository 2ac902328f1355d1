/** Promises 61 to 65: ratios, checks and the report. */
public final class RatiosAndReportTest {
    private static final Check CHECK = new Check("RatiosAndReportTest");

    public static void main(String[] args) {
        averageRate();
        closedShare();
        violations();
        writeSchedule();
        reportByte();
        CHECK.end();
    }

    private static void averageRate() {
        LoanSchedule x = Check.with("loans;open 100 1000 4;open 200 400 4;open 5 3000 1;pay 2;");
        CHECK.due("P61 of two", x.averageRate(), (100.0 * 1000 + 200.0 * 400) / 300.0);
        CHECK.due("P61 is no whole number", Check.with("loans;open 1 1 1;open 2 0 1;").averageRate(), 1.0 / 3.0);
        CHECK.due("P61 no loans", Check.with("loans;").averageRate(), 0.0);
        CHECK.due("P61 all closed", Check.with("loans;open 5 3000 1;pay 0;").averageRate(), 0.0);
        StringBuilder six = new StringBuilder("loans;");
        for (int i = 0; i < 6; i++) {
            six.append("open 9999999 300").append(i == 5 ? "" : "0").append(" 120;");
        }
        CHECK.due("P61 the greatest", Check.with(six.toString()).averageRate(), (9999999L * (5 * 3000 + 300)) / (double) (6 * 9999999L));
    }

    private static void closedShare() {
        LoanSchedule x = Check.with("loans;open 5 0 1;open 5 0 2;open 5 0 3;");
        CHECK.due("P62 none closed", x.closedShare(), 0.0f);
        x.payAll();
        CHECK.due("P62 one of three", x.closedShare(), 1.0f / 3.0f);
        x.payAll();
        CHECK.due("P62 two of three", x.closedShare(), 2.0f / 3.0f);
        x.payAll();
        CHECK.due("P62 all", x.closedShare(), 1.0f);
        CHECK.due("P62 no loans", Check.with("loans;").closedShare(), 0.0f);
    }

    private static void violations() {
        LoanSchedule x = new LoanSchedule();
        CHECK.due("P63 new", x.violations(), 0);
        CHECK.due("P63 no loans", Check.with("loans;").violations(), 0);
        for (int i = 0; i < 60; i++) {
            switch (i % 6) {
                case 0 -> x.payAll();
                case 1 -> x.changeRate(1, 100 + 37 * i);
                case 2 -> x.payExtra(0, 100 + i, i % 4 == 0);
                case 3 -> Check.run(x, "loans;open 90000 777 9;open 4444 3000 11;skip 0;skip 1;");
                case 4 -> x.refinance(0, 50 * i, 7 + i);
                default -> x.spendExtra(500);
            }
            CHECK.due("P63 behind change " + i, x.violations(), 0);
        }
    }

    private static String report(LoanSchedule x, int loan) {
        int length = x.writeSchedule(loan);
        StringBuilder s = new StringBuilder();
        for (int i = 0; i < length; i++) {
            s.append((char) x.reportByte(i));
        }
        CHECK.due("P65 behind " + s, x.reportByte(length), -1);
        return s.toString();
    }

    private static void writeSchedule() {
        LoanSchedule x = Check.with("loans;open 1000 1300 3;open 5 0 1;pay 1;open 999 0 4;open 130 0 13;open 120 0 12;");
        CHECK.due("P64 with interest", report(x, 0), "341+10 341+8 339+3!");
        CHECK.due("P64 closed", report(x, 1), "-");
        CHECK.due("P64 without interest", report(x, 2), "250 250 250 249!");
        CHECK.due("P64 twelve of 13", report(x, 3), "10 10 10 10 10 10 10 10 10 10 10 10");
        CHECK.due("P64 just twelve", report(x, 4), "10 10 10 10 10 10 10 10 10 10 10 10!");
        CHECK.due("P64 its length", x.writeSchedule(0), 19);
        CHECK.index("P64 loan 5", () -> x.writeSchedule(5));
        CHECK.index("P64 loan -1", () -> x.writeSchedule(-1));
        CHECK.index("P64 greatest", () -> x.writeSchedule(Integer.MAX_VALUE));
        String before = Check.plan(x);
        x.writeSchedule(0);
        CHECK.due("P64 changes no loan", Check.plan(x), before);
        LoanSchedule y = Check.with("loans;open 119 1000 3;open 9999999 3000 1;open 9999999 3000 120;open 20 0 2;pay 3;");
        CHECK.due("P64 some interest", report(y, 0), "40 40+1 40!");
        CHECK.due("P64 the greatest amount", report(y, 1), "10249998+249999!");
        CHECK.due("P64 a long one", y.writeSchedule(2), 12 * 13 + 11);
        CHECK.due("P64 the last of two", report(y, 3), "10!");
    }

    private static void reportByte() {
        LoanSchedule x = Check.with("loans;open 1000 1300 3;open 5 0 1;pay 1;");
        CHECK.due("P65 nothing written", x.reportByte(0), -1);
        x.writeSchedule(0);
        CHECK.due("P65 first", x.reportByte(0), 51);
        CHECK.due("P65 plus", x.reportByte(3), 43);
        CHECK.due("P65 space", x.reportByte(6), 32);
        CHECK.due("P65 last", x.reportByte(18), 33);
        for (int index : new int[] {-1, 19, 500, Integer.MAX_VALUE, Integer.MIN_VALUE}) {
            CHECK.due("P65 " + index, x.reportByte(index), -1);
        }
        x.pay(0);
        CHECK.due("P65 stays as it was written", x.reportByte(18), 33);
        x.writeSchedule(1);
        CHECK.due("P65 in place of it", x.reportByte(0), 45);
        CHECK.due("P65 nothing of the earlier one", x.reportByte(1), -1);
    }
}

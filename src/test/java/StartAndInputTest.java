/** Promises 1 to 4: a new object, and the input buffer. */
public final class StartAndInputTest {
    private static final Check CHECK = new Check("StartAndInputTest");

    public static void main(String[] args) {
        newObject();
        append();
        truncateInput();
        inputLength();
        CHECK.end();
    }

    private static void newObject() {
        LoanSchedule x = new LoanSchedule();
        CHECK.due("P1 loanCount", x.loanCount(), 3);
        CHECK.due("P1 loan 0", Check.loan(x, 0), "120000 90272 600 9 10328 0 600 30328 1 0");
        CHECK.due("P1 loan 1", Check.loan(x, 1), "50000 42290 1200 5 8714 86400 918 8628 1 1");
        CHECK.due("P1 loan 2", Check.loan(x, 2), "999 749 0 3 250 0 0 250 1 0");
        CHECK.due("P1 book", Check.book(x), " 0:20000+0 2:250+0 1:8628+500 0:10328+600");
        CHECK.due("P1 inputLength", x.inputLength(), 0);
        CHECK.due("P1 undoCount", x.undoCount(), 0);
        CHECK.due("P1 undo", x.undo(), -1);
        CHECK.due("P1 scriptErrorKind", x.scriptErrorKind(), 0);
        CHECK.due("P1 scriptErrorOffset", x.scriptErrorOffset(), -1);
        CHECK.due("P1 reportByte", x.reportByte(0), -1);
        LoanSchedule y = new LoanSchedule();
        y.payAll();
        CHECK.due("P1 objects are apart", x.paidMonths(0), 1);
        CHECK.due("NONE", LoanSchedule.NONE, -1);
        CHECK.due("NO_ROOM", LoanSchedule.NO_ROOM, -2);
    }

    private static void append() {
        LoanSchedule x = new LoanSchedule();
        CHECK.due("P2 first", x.append(0x6c6f616e, 0x733b6f70, 0x656e2037, 0x20302031, 0x3b6f7065), 20);
        CHECK.due("P2 second", x.append(0x6e203132, 0x33343520, 0x37203920, 0x3b202020, 0x20202020), 40);
        CHECK.due("P2 the text", x.runScript(), 2);
        CHECK.due("P2 the text's numbers", x.principal(0) + " " + x.principal(1) + " " + x.rate(1) + " " + x.monthsLeft(1),
            "7 12345 7 9");
        // bytes from 128 on stay what they are: no token begins with one
        x.append(0x6c6f616e, 0x733b2020, 0x20a0ffff, -1, -1);
        x.runScript();
        CHECK.due("P2 high bytes", x.scriptErrorKind() * 100 + x.scriptErrorOffset(), 109);

        for (int i = 1; i <= 25; i++) {
            CHECK.due("P2 append " + i, x.append(0, 0, 0, 0, 0), 20 * i);
        }
        String before = Check.state(x);
        CHECK.due("P2 no room", x.append(0, 0, 0, 0, 0), -2);
        CHECK.due("P2 nothing appended", Check.state(x), before);
        x.truncateInput(481);
        CHECK.due("P2 no room at 481", x.append(0, 0, 0, 0, 0), -2);
        CHECK.due("P2 length at 481", x.inputLength(), 481);
        x.truncateInput(480);
        CHECK.due("P2 room at 480", x.append(0, 0, 0, 0, 0), 500);
        CHECK.due("P2 is no change", x.undoCount(), 1);
    }

    private static void truncateInput() {
        LoanSchedule x = new LoanSchedule();
        CHECK.due("P3 empty", x.truncateInput(0), 0);
        CHECK.argument("P3 beyond empty", () -> x.truncateInput(1));
        x.append(0x6c6f616e, 0x733b6f70, 0x656e2037, 0x20302031, 0x3b787878);
        CHECK.argument("P3 beyond", () -> x.truncateInput(21));
        CHECK.argument("P3 far beyond", () -> x.truncateInput(Integer.MAX_VALUE));
        CHECK.argument("P3 negative", () -> x.truncateInput(-1));
        CHECK.argument("P3 most negative", () -> x.truncateInput(Integer.MIN_VALUE));
        CHECK.due("P3 same", x.truncateInput(20), 20);
        CHECK.due("P3 shorter", x.truncateInput(17), 17);
        CHECK.argument("P3 not longer again", () -> x.truncateInput(18));
        CHECK.due("P3 what is left", x.runScript(), 1);
        CHECK.due("P3 its loan", x.principal(0), 7);
    }

    private static void inputLength() {
        LoanSchedule x = new LoanSchedule();
        CHECK.due("P4 new", x.inputLength(), 0);
        x.append(1, 2, 3, 4, 5);
        CHECK.due("P4 one", x.inputLength(), 20);
        x.append(1, 2, 3, 4, 5);
        CHECK.due("P4 two", x.inputLength(), 40);
        x.truncateInput(33);
        CHECK.due("P4 shortened", x.inputLength(), 33);
        x.undo();
        x.payAll();
        x.undo();
        CHECK.due("P4 undo leaves it", x.inputLength(), 33);
        x.runScript();
        CHECK.due("P4 behind a script", x.inputLength(), 0);
    }
}

/** Promises 1 to 5, 19 and 20: a new object, the input buffer, and what a script leaves behind. */
final class EdgesOfInput {
    /** A script with an error of each kind, behind commands that would change the planner. */
    private static final String[] ERRORS = {"", "loans;open 5 0 5;all;keep;", "loans;open 5 0 5;all;pay 1;", "loans;open 5 0 1;all;pay 0;",
        "loans;open 5 0 5;repeat 1(repeat 1(repeat 1(repeat 1(all;););););", "loans;open 5 0 5;repeat 13(repeat 24(all;););"};
    private static final int[] KINDS = {1, 1, 2, 3, 4, 5};
    private static final int[] OFFSETS = {0, 21, 25, 26, 44, 37};

    private final Edges edges;

    EdgesOfInput(Edges edges) {
        this.edges = edges;
    }

    void run() {
        edges.sentence(1, "Creates a planner as by the script \"loans; open 120000 600 12; open 50000 1200 6; open 999 0 4; all; "
            + "extra 0 20000; skip 1;\".", this::asByTheScript);
        edges.sentence(1, "The input buffer is empty, and nothing can be undone.", this::nothingYet);
        edges.sentence(2, "Appends 20 bytes to the input buffer: the four bytes of each parameter, the most significant byte first.",
            this::twentyBytes);
        edges.sentence(2, "Returns the new length of the buffer, or NO_ROOM (and nothing is appended) if it would be greater than 500.",
            this::noRoom);
        edges.sentence(3, "Shortens the input buffer.", this::shortens);
        edges.sentence(3, "- `length`: the new length", this::lengthsTaken);
        edges.sentence(3, "Returns the new length.", this::newLength);
        edges.sentence(3, "Throws `IllegalArgumentException` if `length` is negative or greater than the present length", this::lengthsRefused);
        edges.sentence(4, "Returns the number of bytes in the input buffer.", this::inputLength);
        edges.sentence(5, "Executes the input buffer as a script.", this::theWholeInput);
        edges.sentence(5, "A script without an error replaces everything; the book is empty before its first command.", this::replaces);
        edges.sentence(5, "The input buffer is empty afterwards in every case.", this::emptyAfterwards);
        edges.sentence(5, "If the script has an error, only the input buffer and the script error change.", this::failed);
        edges.sentence(5, "Returns the number of loans, or NONE if the script has an error.", this::numberOfLoans);
        edges.sentence(19, "Returns the kind (1 to 5) of the error of the latest script, or 0 if it had no error or no script was run.",
            this::errorKind);
        edges.sentence(20, "Returns the offset of the error of the latest script, or NONE if scriptErrorKind() is 0.", this::errorOffset);
    }

    private void asByTheScript() {
        String words = edges.section(1);
        String script = words.substring(words.indexOf("script \"") + 8, words.indexOf(";\"") + 1);
        edges.due("plan", Check.plan(new LoanSchedule()), Check.plan(Check.with(script)));
        LoanSchedule x = new LoanSchedule();
        edges.due("loan 0", Check.loan(x, 0), "120000 90272 600 9 10328 0 600 30328 1 0");
        edges.due("loan 1", Check.loan(x, 1), "50000 42290 1200 5 8714 86400 918 8628 1 1");
        edges.due("loan 2", Check.loan(x, 2), "999 749 0 3 250 0 0 250 1 0");
        edges.due("book", Check.book(x), " 0:20000+0 2:250+0 1:8628+500 0:10328+600");
        edges.due("a second object", Check.plan(new LoanSchedule()), Check.plan(x));
    }

    private void nothingYet() {
        LoanSchedule x = new LoanSchedule();
        edges.due("inputLength", x.inputLength(), 0);
        edges.due("undoCount", x.undoCount(), 0);
        edges.due("undo", x.undo(), -1);
        edges.due("plan behind it", Check.plan(x), Check.plan(new LoanSchedule()));
        edges.due("error", x.scriptErrorKind() + " " + x.scriptErrorOffset(), "0 -1");
        edges.due("an empty script", x.runScript() + " " + x.scriptErrorKind() + " " + x.scriptErrorOffset(), "-1 1 0");
        edges.due("append", x.append(1, 2, 3, 4, 5), 20);
    }

    /** Each of the 20 bytes in its place: one that no token begins with, told by its offset. */
    private void twentyBytes() {
        for (int b : new int[] {0, 127, 128, 255}) {
            for (int place = 0; place < 20; place++) {
                byte[] bytes = "loans;              ".getBytes(java.nio.charset.StandardCharsets.ISO_8859_1);
                bytes[place] = (byte) b;
                int[] words = new int[5];
                for (int i = 0; i < 20; i++) {
                    words[i / 4] = words[i / 4] << 8 | bytes[i] & 255;
                }
                LoanSchedule x = new LoanSchedule();
                edges.due("length", x.append(words[0], words[1], words[2], words[3], words[4]), 20);
                x.runScript();
                edges.due("byte " + b + " at " + place, x.scriptErrorKind() + " " + x.scriptErrorOffset(), "1 " + (place < 5 ? 0 : place));
            }
        }
        // the second call goes on where the first one ended
        LoanSchedule y = new LoanSchedule();
        y.append(0x6c6f616e, 0x733b6f70, 0x656e2031, 0x32333435, 0x36372039);
        edges.due("second", y.append(0x39392031, 0x32303b20, 0x20202020, 0x20202020, 0x2020203b), 40);
        edges.due("behind two calls", y.runScript() + " " + y.scriptErrorOffset(), "-1 39");
        y.append(0x6c6f616e, 0x733b6f70, 0x656e2031, 0x32333435, 0x36372039);
        y.append(0x39392031, 0x32303b20, 0x20202020, 0x20202020, 0x20202020);
        edges.due("across two calls", y.runScript() + " " + y.principal(0) + " " + y.rate(0) + " " + y.monthsLeft(0), "1 1234567 999 120");
    }

    private void noRoom() {
        String full = "loans;" + " ".repeat(481) + "open 7 0 120;";
        for (int cut : new int[] {500, 499, 481}) {
            LoanSchedule x = Edges.prepared("loans;open 5 0 5;");
            Check.load(x, full);
            edges.due("full", x.inputLength(), 500);
            x.truncateInput(cut);
            edges.due("at " + cut, x.append(0x3b3b3b3b, 0, 0, 0, 0), -2);
            edges.due("length at " + cut, x.inputLength(), cut);
            x.runScript();
            edges.due("text at " + cut, x.loanCount() + " " + x.scriptErrorKind() + " " + x.scriptErrorOffset(),
                cut == 500 ? "1 0 -1" : cut == 499 ? "1 1 499" : "0 0 -1");
        }
        for (int cut : new int[] {480, 479, 0}) {
            LoanSchedule x = new LoanSchedule();
            Check.load(x, " ".repeat(500));
            x.truncateInput(cut);
            edges.due("room at " + cut, x.append(0x3b3b3b3b, 0, 0, 0, 0), cut + 20);
            edges.due("length behind " + cut, x.inputLength(), cut + 20);
        }
    }

    private void shortens() {
        LoanSchedule x = new LoanSchedule();
        Check.load(x, "loans;open 5 0 1;open 6 0 1;?");
        x.truncateInput(28);
        edges.due("its front part", x.runScript() + " " + x.principal(0) + " " + x.principal(1), "2 5 6");
        // what was cut off does not come back
        Check.load(x, "loans;????????????????????????");
        x.truncateInput(6);
        x.append(0x20202020, 0x20202020, 0x20202020, 0x20202020, 0x20202020);
        edges.due("what follows", x.runScript(), 0);
    }

    private void lengthsTaken() {
        for (int length : new int[] {0, 1, 19, 20}) {
            LoanSchedule x = new LoanSchedule();
            x.append(1, 2, 3, 4, 5);
            edges.due("length " + length, x.truncateInput(length) + " " + x.inputLength(), length + " " + length);
        }
        LoanSchedule y = new LoanSchedule();
        Check.load(y, " ".repeat(500));
        edges.due("all of 500", y.truncateInput(500), 500);
        edges.due("one of 500", y.truncateInput(499), 499);
    }

    private void newLength() {
        LoanSchedule x = new LoanSchedule();
        edges.due("of the empty one", x.truncateInput(0), 0);
        x.append(1, 2, 3, 4, 5);
        edges.due("as long as before", x.truncateInput(20), 20);
        edges.due("shorter", x.truncateInput(7), 7);
        edges.due("empty", x.truncateInput(0), 0);
    }

    private void lengthsRefused() {
        Edges.Made made = () -> Edges.prepared("loans;open 5 0 5;");
        for (int length : new int[] {-1, 24, 500, 501, Edges.BIG, Edges.LOW}) {
            edges.refused(length + " of 23", IllegalArgumentException.class, made, x -> x.truncateInput(length));
        }
        for (int length : new int[] {-1, 1, 20, Edges.BIG, Edges.LOW}) {
            edges.refused(length + " of 0", IllegalArgumentException.class, LoanSchedule::new, x -> x.truncateInput(length));
        }
        edges.refused("501 of 500", IllegalArgumentException.class, () -> {
            LoanSchedule x = new LoanSchedule();
            Check.load(x, "loans;" + " ".repeat(494));
            return x;
        }, x -> x.truncateInput(501));
        edges.refused("as long as it was", IllegalArgumentException.class, () -> {
            LoanSchedule x = new LoanSchedule();
            Check.load(x, "loans; ");
            x.truncateInput(6);
            return x;
        }, x -> x.truncateInput(7));
    }

    private void inputLength() {
        LoanSchedule x = new LoanSchedule();
        edges.due("0", x.inputLength(), 0);
        for (int i = 1; i <= 25; i++) {
            x.append(0, 0, 0, 0, 0);
            edges.due("append " + i, x.inputLength(), 20 * i);
        }
        x.append(0, 0, 0, 0, 0);
        edges.due("no room", x.inputLength(), 500);
        x.truncateInput(499);
        edges.due("499", x.inputLength(), 499);
        x.truncateInput(0);
        edges.due("0 again", x.inputLength(), 0);
    }

    private void theWholeInput() {
        edges.good("loans;", 0);
        edges.good("loans;open 5 0 1;", 1);
        edges.bad("loans;open 5 0 1^", 1);
        edges.bad("^", 1);
        // the input of an earlier script is gone
        LoanSchedule x = Check.with("loans;open 5 0 1;open 5 0 1;");
        edges.due("shorter than the one before", Check.run(x, "loans;") + " " + x.loanCount(), "0 0");
    }

    private void replaces() {
        // six loans, one with six skipped months, and a full book
        LoanSchedule x = Check.with("loans;repeat 6(open 900 1200 9;);repeat 6(skip 0;);repeat 4(all;);");
        edges.due("full book", x.entryCount(), 20);
        edges.due("six more loans", Check.run(x, "loans;repeat 6(open 7 0 7;);repeat 6(skip 0;);"), 6);
        edges.due("the loans", Check.loan(x, 0) + "," + Check.loan(x, 5), "7 7 0 7 1 0 0 0 0 6,7 7 0 7 1 0 0 0 0 0");
        edges.due("the book", x.entryCount() + " " + x.entryLoan(0), "0 -1");
        edges.due("one payment", Check.run(x, "loans;open 7 0 7;pay 0;"), 1);
        edges.due("its book", Check.book(x), " 0:1+0");
        edges.due("the entry before it", x.entryLoan(1), -1);
        edges.due("no loans", Check.run(x, "loans;") + " " + Check.plan(x), "0  book");
        edges.due("three scripts to undo, and the first", x.undoCount(), 4);
    }

    private void emptyAfterwards() {
        for (String script : new String[] {"loans;", "loans;open 5 0 5;", "loans;" + " ".repeat(494), "?".repeat(500)}) {
            LoanSchedule x = new LoanSchedule();
            Check.run(x, script);
            edges.due(script.trim(), x.inputLength() + " " + x.append(0, 0, 0, 0, 0), "0 20");
        }
        for (int i = 0; i < ERRORS.length; i++) {
            LoanSchedule x = new LoanSchedule();
            Check.run(x, ERRORS[i]);
            edges.due("behind " + ERRORS[i], x.scriptErrorKind() + " " + x.inputLength(), KINDS[i] + " 0");
            edges.due("the next script behind " + ERRORS[i], x.runScript() + " " + x.scriptErrorOffset(), "-1 0");
        }
    }

    private void failed() {
        for (int i = 0; i < ERRORS.length; i++) {
            LoanSchedule x = Edges.prepared("loans;open 1000 1300 9;open 70 0 7;all;skip 0;");
            LoanSchedule y = Edges.prepared("loans;open 1000 1300 9;open 70 0 7;all;skip 0;");
            edges.due("answer " + i, Check.run(x, ERRORS[i]), -1);
            y.truncateInput(0);
            edges.due("plan behind error " + i, Check.plan(x), Check.plan(y));
            edges.due("report behind error " + i, Edges.text(x), Edges.text(y));
            edges.due("undoCount behind error " + i, x.undoCount(), 2);
            edges.due("undo and snapshot behind error " + i, Edges.behind(x), Edges.behind(y));
        }
        LoanSchedule z = new LoanSchedule();
        Check.run(z, ERRORS[2]);
        edges.due("no snapshot is there", Edges.answer(z, x -> x.restoreSnapshot()), "throws.NoSuchElementException");
        edges.due("nothing to undo", z.undo(), -1);
    }

    private void numberOfLoans() {
        edges.good("loans;", 0);
        for (int count = 1; count <= 6; count++) {
            edges.good("loans;repeat " + count + "(open 5 0 1;);all;", count);
        }
        for (int i = 0; i < ERRORS.length; i++) {
            edges.due("error " + i, Check.run(new LoanSchedule(), ERRORS[i]), -1);
        }
    }

    private void errorKind() {
        LoanSchedule x = new LoanSchedule();
        edges.due("no script was run", x.scriptErrorKind(), 0);
        for (int i = 0; i < ERRORS.length; i++) {
            Check.run(x, ERRORS[i]);
            edges.due("error " + i, x.scriptErrorKind(), KINDS[i]);
            Check.load(x, "loans;");
            edges.due("ahead of the next one " + i, x.scriptErrorKind(), KINDS[i]);
            x.runScript();
            edges.due("no error " + i, x.scriptErrorKind(), 0);
        }
        Check.run(x, ERRORS[5]);
        x.undo();
        x.saveSnapshot();
        x.restoreSnapshot();
        edges.due("behind undo and snapshot", x.scriptErrorKind(), 5);
    }

    private void errorOffset() {
        LoanSchedule x = new LoanSchedule();
        edges.due("no script was run", x.scriptErrorOffset(), -1);
        for (int i = 0; i < ERRORS.length; i++) {
            Check.run(x, ERRORS[i]);
            edges.due("error " + i, x.scriptErrorOffset(), OFFSETS[i]);
            Check.run(x, "loans;");
            edges.due("no error " + i, x.scriptErrorOffset(), -1);
        }
        Check.run(x, " ".repeat(499) + "?");
        edges.due("the last byte", x.scriptErrorOffset(), 499);
        Check.run(x, " ".repeat(500));
        edges.due("the length of the text", x.scriptErrorOffset(), 500);
        x.undo();
        edges.due("behind undo", x.scriptErrorOffset(), 500);
    }
}

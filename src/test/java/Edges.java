import java.io.IOException;
import java.nio.file.Files;
import java.nio.file.Path;
import java.util.ArrayList;
import java.util.List;
import java.util.NoSuchElementException;

/**
 * Tests of the document's sentences: each is told by its promise's number (0 for what stands ahead of promise 1) and
 * by its words, which must stand there, so that a test can neither lose its sentence nor a sentence its test.
 */
final class Edges {
    static final int BIG = Integer.MAX_VALUE;
    static final int LOW = Integer.MIN_VALUE;
    static final int PROMISES = 65;

    interface Call {
        Object on(LoanSchedule x);
    }

    interface Made {
        LoanSchedule make();
    }

    interface Test {
        void run();
    }

    private final Check check = new Check("EdgesTest");
    private final String[] sections = new String[PROMISES + 1];
    private final List<List<String>> told = new ArrayList<>();
    private String sentence = "";

    Edges() throws IOException {
        String doc = Files.readString(Path.of("../shared/DOC.md"));
        String rest = doc.substring(0, doc.indexOf("\n## Not promised"));
        for (int promise = PROMISES; promise >= 0; promise--) {
            int from = promise == 0 ? 0 : rest.indexOf("\n## Promise " + promise + ":");
            sections[promise] = rest.substring(from);
            rest = rest.substring(0, from);
            told.add(new ArrayList<>());
        }
    }

    // ---- sentences

    void sentence(int promise, String words, Test test) {
        sentence = "P" + promise + " \"" + words + "\"";
        check.due(sentence + " stands in the document", sections[promise].contains(words), true);
        told.get(promise).add(words);
        try {
            test.run();
        } catch (RuntimeException e) {
            check.due(sentence + " threw", e.toString(), "nothing");
        }
    }

    String section(int promise) {
        return sections[promise];
    }

    /** Every sentence of every promise, and of the terms but for those that name nothing to be tried, has its test. */
    void endWithAllSentences(List<String> untried) {
        for (int promise = 0; promise <= PROMISES; promise++) {
            for (String s : sentencesOf(promise)) {
                boolean found = promise == 0 && untried.stream().anyMatch(s::startsWith);
                for (String words : told.get(promise)) {
                    found |= s.contains(words) || words.contains(s);
                }
                check.due("P" + promise + " has a test of: " + s, found, true);
            }
        }
        check.end();
    }

    private List<String> sentencesOf(int promise) {
        String text = sections[promise];
        if (promise == 0) {
            text = text.substring(text.indexOf("## Terms") + 8).replaceAll("(?s)```.*?```", "");
        } else {
            text = text.substring(text.indexOf("`: ") + 3);
        }
        List<String> all = new ArrayList<>();
        for (String line : text.split("\n")) {
            for (String s : line.split("(?<=[.]) (?=[A-Z\"])")) {
                if (!s.isBlank()) {
                    all.add(s.trim());
                }
            }
        }
        return all;
    }

    // ---- what is due

    void due(String what, Object got, Object want) {
        check.due(sentence + ", " + what, got, want);
    }

    /** The call answers; a call that must be possible may not be refused. */
    void taken(String what, Made made, Call call) {
        String got = answer(made.make(), call);
        due(what + " is taken", got.startsWith("throws.") ? got : "taken", "taken");
    }

    /** The call throws, and nothing is another afterwards, also not what lies behind undo, snapshot and input. */
    void refused(String what, Class<?> why, Made made, Call call) {
        LoanSchedule x = made.make();
        due(what, answer(x, call), "throws." + why.getSimpleName());
        due(what + " leaves everything", everything(x), everything(made.make()));
    }

    void index(String what, String script, Call call) {
        refused(what, IndexOutOfBoundsException.class, () -> prepared(script), call);
    }

    void argument(String what, String script, Call call) {
        refused(what, IllegalArgumentException.class, () -> prepared(script), call);
    }

    void impossible(String what, String script, Call call) {
        refused(what, IllegalStateException.class, () -> prepared(script), call);
    }

    /** The hat stands before the byte at which the error is due; it is not a part of the text. */
    void bad(String marked, int kind) {
        LoanSchedule x = new LoanSchedule();
        int answer = Check.run(x, marked.replace("^", ""));
        due(marked, answer + " " + x.scriptErrorKind() + " " + x.scriptErrorOffset(), "-1 " + kind + " " + marked.indexOf('^'));
    }

    void good(String text, int loans) {
        LoanSchedule x = new LoanSchedule();
        int answer = Check.run(x, text);
        due(text, answer + " " + x.scriptErrorKind() + " " + x.scriptErrorOffset(), loans + " 0 -1");
    }

    // ---- objects and answers

    static String answer(LoanSchedule x, Call call) {
        try {
            return String.valueOf(call.on(x));
        } catch (RuntimeException e) {
            return "throws." + e.getClass().getSimpleName();
        }
    }

    /** After the script, with a snapshot of other loans, two changes to be undone, a report, an error and some input. */
    static LoanSchedule prepared(String script) {
        LoanSchedule x = new LoanSchedule();
        x.saveSnapshot();
        x.writeSchedule(2);
        x.pay(2);
        if (Check.run(x, script) == LoanSchedule.NONE) {
            throw new IllegalArgumentException("a script with an error: " + script);
        }
        Check.run(x, "loans;?");
        Check.load(x, "loans;open 7 0 7;pay 0;");
        return x;
    }

    /** What can be told of an object, by calls that use it up. */
    static String everything(LoanSchedule x) {
        StringBuilder s = new StringBuilder(Check.state(x));
        s.append("\ninput ").append(x.runScript());
        if (x.scriptErrorKind() == 0) {
            s.append(Check.plan(x)).append(x.undo());
        }
        return s.append(behind(x)).toString();
    }

    /** What lies behind undo and snapshot. */
    static String behind(LoanSchedule x) {
        StringBuilder s = new StringBuilder();
        int left = 0;
        for (int i = 0; i < 9 && left >= 0; i++) {
            left = x.undo();
            s.append("\nundo ").append(left).append(' ').append(Check.plan(x));
        }
        try {
            s.append("\nsnapshot ").append(x.restoreSnapshot()).append(' ').append(Check.plan(x));
        } catch (NoSuchElementException e) {
            s.append("\nno snapshot");
        }
        return s.toString();
    }

    static String text(LoanSchedule x) {
        StringBuilder s = new StringBuilder();
        for (int i = 0; x.reportByte(i) >= 0; i++) {
            s.append((char) x.reportByte(i));
        }
        return s.toString();
    }

    // ---- the level installment, by hand

    /** With this installment, no month of the months has an amount due that is greater than it. */
    static boolean holds(long balance, long rate, long carry, long months, long installment) {
        for (long month = 1; month <= months; month++) {
            long interest = (balance * rate + carry) / 120000;
            if (balance + interest <= installment) {
                return true;
            }
            carry = (balance * rate + carry) % 120000;
            balance += interest - installment;
        }
        return false;
    }

    static boolean isLevel(LoanSchedule x, int loan) {
        return isLevel(x, loan, x.monthsLeft(loan), x.installment(loan));
    }

    static boolean isLevel(LoanSchedule x, int loan, int months, int installment) {
        int balance = x.balance(loan);
        return holds(balance, x.rate(loan), x.carry(loan), months, installment)
            && !holds(balance, x.rate(loan), x.carry(loan), months, installment - 1);
    }

    static boolean hasFewestMonths(LoanSchedule x, int loan) {
        int months = x.monthsLeft(loan);
        return holds(x.balance(loan), x.rate(loan), x.carry(loan), months, x.installment(loan))
            && !holds(x.balance(loan), x.rate(loan), x.carry(loan), months - 1, x.installment(loan));
    }
}

import java.util.ArrayDeque;
import java.util.ArrayList;
import java.util.Deque;
import java.util.List;
import java.util.NoSuchElementException;
import java.util.function.UnaryOperator;
import java.util.regex.Matcher;
import java.util.regex.Pattern;

/**
 * The document once more, as plainly as it can be said and with other means than the program:
 * unchangeable records, an installment found by walking from a guess, a script reader by regular expressions.
 */
public final class Model {
    record Loan(long principal, long balance, long rate, long months, long installment, long carry,
                long interest, long paid, long payments, long skips) {
        boolean open() {
            return balance > 0;
        }

        long interestDue() {
            return (balance * rate + carry) / 120000;
        }

        long newCarry() {
            return (balance * rate + carry) % 120000;
        }

        long due() {
            long all = balance + interestDue();
            if (!open()) {
                return 0;
            }
            if (all <= installment) {
                return all;
            }
            return months == 1 ? all : installment;
        }

        Loan withTerms(long newRate, long newMonths, long newInstallment) {
            return new Loan(principal, balance, newRate, newMonths, newInstallment, carry, interest, paid, payments, skips);
        }

        Loan level() {
            return withTerms(rate, months, smallestInstallment());
        }

        Loan closedIfEmpty() {
            return open() ? this : new Loan(principal, 0, rate, 0, 0, 0, interest, paid, payments, skips);
        }

        Loan payed() {
            long due = due();
            return new Loan(principal, balance + interestDue() - due, rate, months - 1, installment, newCarry(),
                interest + interestDue(), paid + due, payments + 1, skips).closedIfEmpty();
        }

        Loan skipped() {
            return new Loan(principal, balance + interestDue(), rate, months, installment, newCarry(),
                interest + interestDue(), paid, payments, skips + 1).level();
        }

        Loan reduced(long amount, boolean keep) {
            Loan less = new Loan(principal, balance - amount, rate, months, installment, carry,
                interest, paid + amount, payments, skips).closedIfEmpty();
            if (!less.open()) {
                return less;
            }
            return keep ? less.level() : less.withTerms(rate, less.smallestMonths(installment), installment);
        }

        /** No month of the months left has an amount due that is greater than the installment. */
        boolean holds() {
            Loan loan = this;
            while (loan.open()) {
                if (loan.due() > installment) {
                    return false;
                }
                loan = loan.payed();
            }
            return true;
        }

        long smallestInstallment() {
            double monthly = rate / 120000.0;
            double guess = rate == 0 ? (double) balance / months
                : balance * monthly / (1 - Math.pow(1 + monthly, -months));
            long amount = Math.max(1, (long) guess);
            while (!withTerms(rate, months, amount).holds()) {
                amount++;
            }
            while (amount > 1 && withTerms(rate, months, amount - 1).holds()) {
                amount--;
            }
            return amount;
        }

        long smallestMonths(long amount) {
            for (long m = 1; m <= 120; m++) {
                if (withTerms(rate, m, amount).holds()) {
                    return m;
                }
            }
            return -1;
        }
    }

    record Entry(int loan, long amount, long interest) {
    }

    record State(List<Loan> loans, List<Entry> book) {
        State with(int number, UnaryOperator<Loan> change) {
            List<Loan> copy = new ArrayList<>(loans);
            copy.set(number, change.apply(loans.get(number)));
            return new State(copy, book);
        }

        State noted(int loan, long amount, long interest) {
            List<Entry> copy = new ArrayList<>(book);
            copy.add(0, new Entry(loan, amount, interest));
            return new State(loans, copy.size() > 20 ? copy.subList(0, 20) : copy);
        }

        State opened(long principal, long rate, long months) {
            List<Loan> copy = new ArrayList<>(loans);
            copy.add(new Loan(principal, principal, rate, months, 0, 0, 0, 0, 0, 0).level());
            return new State(copy, book);
        }

        State payed(int n) {
            Loan loan = loans.get(n);
            return with(n, Loan::payed).noted(n, loan.due(), loan.interestDue());
        }

        State payedAll() {
            State s = this;
            for (int i = 0; i < loans.size(); i++) {
                if (loans.get(i).open()) {
                    s = s.payed(i);
                }
            }
            return s;
        }

        State reduced(int n, long amount, boolean keep) {
            return with(n, x -> x.reduced(amount, keep)).noted(n, amount, 0);
        }

        int first(boolean byRate) {
            int best = -1;
            for (int i = loans.size() - 1; i >= 0; i--) {
                Loan a = loans.get(i);
                if (a.open() && (best < 0 || (byRate ? a.rate() >= loans.get(best).rate()
                    : a.balance() <= loans.get(best).balance()))) {
                    best = i;
                }
            }
            return best;
        }

        State spent(long amount, boolean byRate) {
            State s = this;
            long rest = amount;
            while (rest > 0 && s.first(byRate) >= 0) {
                int n = s.first(byRate);
                long part = Math.min(rest, s.loans.get(n).balance());
                s = s.reduced(n, part, false);
                rest -= part;
            }
            return s;
        }

        long dues() {
            return loans.stream().mapToLong(Loan::due).sum();
        }

        long balances() {
            return loans.stream().mapToLong(Loan::balance).sum();
        }

        long interests() {
            return loans.stream().mapToLong(Loan::interest).sum();
        }
    }

    static final class ScriptError extends RuntimeException {
        final int kind;
        final int offset;

        ScriptError(int kind, int offset) {
            this.kind = kind;
            this.offset = offset;
        }
    }

    private State now = new State(List.of(), List.of());
    private State saved = null;
    private final Deque<State> past = new ArrayDeque<>();
    private final StringBuilder input = new StringBuilder();
    private int errorKind = 0;
    private int errorOffset = -1;
    private String report = "";

    public Model() {
        now = new Reader("loans; open 120000 600 12; open 50000 1200 6; open 999 0 4; all; extra 0 20000; skip 1;").run();
    }

    // ---- the script

    private static final class Reader {
        private static final Pattern TOKEN = Pattern.compile("[a-z]+|[0-9]+|[();]|[^ \n]", Pattern.DOTALL);
        final String text;
        int position = 0;
        int start = 0;
        String token = "";
        State state = new State(List.of(), List.of());
        int executed = 0;

        Reader(String text) {
            this.text = text;
        }

        State run() {
            expect("loans");
            expect(";");
            while (!peek().isEmpty()) {
                command(0);
            }
            return state;
        }

        String peek() {
            int before = position;
            String t = next();
            position = before;
            return t;
        }

        String next() {
            Matcher m = TOKEN.matcher(text);
            if (!m.find(position)) {
                start = text.length();
                token = "";
            } else {
                start = m.start();
                token = m.group();
                position = m.end();
            }
            return token;
        }

        ScriptError error(int kind) {
            return new ScriptError(kind, start);
        }

        void expect(String wanted) {
            if (!next().equals(wanted)) {
                throw error(1);
            }
        }

        int number(int least, int most) {
            next();
            if (!token.matches("[0-9]{1,7}")) {
                throw error(1);
            }
            int value = Integer.parseInt(token);
            if (value < least || value > most) {
                throw error(2);
            }
            return value;
        }

        void command(int depth) {
            String word = next();
            if (!List.of("open", "pay", "all", "extra", "skip", "rate", "extend", "repeat").contains(word)) {
                throw error(1);
            }
            if (word.equals("repeat")) {
                repeat(depth);
                return;
            }
            if (executed == 300) {
                throw error(5);
            }
            execute(word);
            executed++;
        }

        void repeat(int depth) {
            if (depth == 3) {
                throw error(4);
            }
            int times = number(1, 24);
            expect("(");
            int body = position;
            for (int i = 0; i < times; i++) {
                position = body;
                while (!peek().equals(")")) {
                    command(depth + 1);
                }
                expect(")");
            }
            expect(";");
        }

        int loan() {
            return number(0, state.loans().size() - 1);
        }

        void execute(String word) {
            if (word.equals("open")) {
                int p = number(1, 9999999);
                int r = number(0, 3000);
                int m = number(1, 120);
                end(state.loans().size() < 6);
                state = state.opened(p, r, m);
                return;
            }
            if (word.equals("all")) {
                end(true);
                state = state.payedAll();
                return;
            }
            int n = loan();
            Loan l = state.loans().get(n);
            switch (word) {
                case "pay" -> {
                    end(l.open());
                    state = state.payed(n);
                }
                case "extra" -> {
                    int amount = number(1, 9999999);
                    boolean keep = peek().equals("keep");
                    if (keep) {
                        next();
                    }
                    end(l.open() && amount <= l.balance());
                    state = state.reduced(n, amount, keep);
                }
                case "skip" -> {
                    end(canSkip(l));
                    state = state.with(n, Loan::skipped);
                }
                case "rate" -> {
                    int r = number(0, 3000);
                    end(l.open());
                    state = state.with(n, x -> x.withTerms(r, x.months(), 0).level());
                }
                default -> {
                    int m = number(1, 60);
                    end(l.open() && l.months() + m <= 120);
                    state = state.with(n, x -> x.withTerms(x.rate(), x.months() + m, 0).level());
                }
            }
        }

        void end(boolean possible) {
            expect(";");
            if (!possible) {
                throw error(3);
            }
        }
    }

    private static boolean canSkip(Loan l) {
        return l.open() && l.skips() < 6 && l.balance() + l.interestDue() <= 9999999;
    }

    // ---- input

    public int append(int a, int b, int c, int d, int e) {
        if (input.length() > 480) {
            return -2;
        }
        for (int word : new int[] {a, b, c, d, e}) {
            input.append((char) (word >>> 24)).append((char) (word >>> 16 & 255))
                .append((char) (word >>> 8 & 255)).append((char) (word & 255));
        }
        return input.length();
    }

    public int truncateInput(int length) {
        argument(length >= 0 && length <= input.length());
        input.setLength(length);
        return length;
    }

    public int inputLength() {
        return input.length();
    }

    // ---- changes

    private static void argument(boolean good) {
        if (!good) {
            throw new IllegalArgumentException();
        }
    }

    private static void possible(boolean good) {
        if (!good) {
            throw new IllegalStateException();
        }
    }

    private static boolean amountIsGood(int amount) {
        return amount >= 1 && amount <= 9999999;
    }

    private static boolean rateIsGood(int rate) {
        return rate >= 0 && rate <= 3000;
    }

    private static boolean monthsAreGood(int months) {
        return months >= 1 && months <= 120;
    }

    private Loan at(int n) {
        if (n < 0 || n >= now.loans().size()) {
            throw new IndexOutOfBoundsException();
        }
        return now.loans().get(n);
    }

    private void change(State next) {
        past.addFirst(now);
        if (past.size() > 8) {
            past.removeLast();
        }
        now = next;
    }

    public int runScript() {
        String text = input.toString();
        input.setLength(0);
        errorKind = 0;
        errorOffset = -1;
        try {
            change(new Reader(text).run());
            return loanCount();
        } catch (ScriptError e) {
            errorKind = e.kind;
            errorOffset = e.offset;
            return -1;
        }
    }

    public int openLoan(int principal, int rate, int months) {
        argument(amountIsGood(principal) && rateIsGood(rate) && monthsAreGood(months));
        possible(loanCount() < 6);
        change(now.opened(principal, rate, months));
        return loanCount() - 1;
    }

    public int pay(int n) {
        possible(at(n).open());
        long due = at(n).due();
        change(now.payed(n));
        return (int) due;
    }

    public int payAll() {
        long due = now.dues();
        change(now.payedAll());
        return (int) due;
    }

    public int payExtra(int n, int amount, boolean keep) {
        Loan l = at(n);
        argument(amountIsGood(amount));
        possible(l.open() && l.balance() >= amount);
        change(now.reduced(n, amount, keep));
        return balance(n);
    }

    public int skipMonth(int n) {
        Loan l = at(n);
        possible(canSkip(l));
        change(now.with(n, Loan::skipped));
        return (int) l.interestDue();
    }

    public int changeRate(int n, int rate) {
        Loan l = at(n);
        argument(rateIsGood(rate));
        possible(l.open());
        change(now.with(n, x -> x.withTerms(rate, x.months(), 0).level()));
        return installment(n);
    }

    public int extendTerm(int n, int months) {
        Loan l = at(n);
        argument(months >= 1 && months <= 60);
        possible(l.open() && l.months() + months <= 120);
        change(now.with(n, x -> x.withTerms(x.rate(), x.months() + months, 0).level()));
        return installment(n);
    }

    public int refinance(int n, int rate, int months) {
        Loan l = at(n);
        argument(rateIsGood(rate) && monthsAreGood(months));
        possible(l.open());
        change(now.with(n, x -> x.withTerms(rate, months, 0).level()));
        return installment(n);
    }

    public int spendExtra(int amount) {
        argument(amountIsGood(amount));
        State after = now.spent(amount, true);
        long spent = now.balances() - after.balances();
        change(after);
        return (int) spent;
    }

    // ---- undo and snapshot

    public int undo() {
        if (past.isEmpty()) {
            return -1;
        }
        now = past.removeFirst();
        return past.size();
    }

    public int undoCount() {
        return past.size();
    }

    public int saveSnapshot() {
        saved = now;
        return loanCount();
    }

    public int restoreSnapshot() {
        if (saved == null) {
            throw new NoSuchElementException();
        }
        now = saved;
        past.clear();
        return loanCount();
    }

    public int scriptErrorKind() {
        return errorKind;
    }

    public int scriptErrorOffset() {
        return errorOffset;
    }

    // ---- loans and book

    public int loanCount() {
        return now.loans().size();
    }

    public int openCount() {
        return (int) now.loans().stream().filter(Loan::open).count();
    }

    public boolean isOpen(int n) {
        return at(n).open();
    }

    public int principal(int n) {
        return (int) at(n).principal();
    }

    public int balance(int n) {
        return (int) at(n).balance();
    }

    public int rate(int n) {
        return (int) at(n).rate();
    }

    public int monthsLeft(int n) {
        return (int) at(n).months();
    }

    public int installment(int n) {
        return (int) at(n).installment();
    }

    public int carry(int n) {
        return (int) at(n).carry();
    }

    public int interestDue(int n) {
        return (int) at(n).interestDue();
    }

    public int amountDue(int n) {
        return (int) at(n).due();
    }

    public int interestSoFar(int n) {
        return (int) at(n).interest();
    }

    public int paidSoFar(int n) {
        return (int) at(n).paid();
    }

    public int paidMonths(int n) {
        return (int) at(n).payments();
    }

    public int skippedMonths(int n) {
        return (int) at(n).skips();
    }

    public int entryCount() {
        return now.book().size();
    }

    private Entry entry(int back) {
        return back < 0 || back >= now.book().size() ? new Entry(-1, -1, -1) : now.book().get(back);
    }

    public int entryLoan(int back) {
        return entry(back).loan();
    }

    public int entryAmount(int back) {
        return (int) entry(back).amount();
    }

    public int entryInterest(int back) {
        return (int) entry(back).interest();
    }

    // ---- predictions

    /** The loan now and after each of its payments, down to the one that closes it. */
    private static List<Loan> course(Loan loan) {
        List<Loan> all = new ArrayList<>();
        all.add(loan);
        while (all.get(all.size() - 1).open()) {
            all.add(all.get(all.size() - 1).payed());
        }
        return all;
    }

    private static long ahead(Loan loan) {
        List<Loan> all = course(loan);
        return all.get(all.size() - 1).interest() - loan.interest();
    }

    public int interestOfPayment(int n, int number) {
        Loan l = at(n);
        argument(monthsAreGood(number));
        List<Loan> all = course(l);
        return number >= all.size() ? -1 : (int) all.get(number - 1).interestDue();
    }

    public int amountOfPayment(int n, int number) {
        Loan l = at(n);
        argument(monthsAreGood(number));
        List<Loan> all = course(l);
        return number >= all.size() ? -1 : (int) all.get(number - 1).due();
    }

    public int paymentsTo(int n, int amount) {
        Loan l = at(n);
        argument(amount >= 0 && amount <= 9999999);
        List<Loan> all = course(l);
        int count = 0;
        while (all.get(count).balance() > amount) {
            count++;
        }
        return count;
    }

    public int balanceAfter(int n, int months) {
        Loan l = at(n);
        argument(months >= 0 && months <= 120);
        List<Loan> all = course(l);
        return (int) all.get(Math.min(months, all.size() - 1)).balance();
    }

    public int interestAhead(int n) {
        return (int) ahead(at(n));
    }

    public int lastDue(int n) {
        List<Loan> all = course(at(n));
        return all.size() == 1 ? 0 : (int) all.get(all.size() - 2).due();
    }

    public int monthsToHalf(int n) {
        List<Loan> all = course(at(n));
        int count = 0;
        while (2 * all.get(count).balance() > at(n).principal()) {
            count++;
        }
        return count;
    }

    public int installmentFor(int n, int months) {
        Loan l = at(n);
        argument(monthsAreGood(months));
        return l.open() ? (int) l.withTerms(l.rate(), months, 0).smallestInstallment() : 0;
    }

    public int monthsFor(int n, int installment) {
        Loan l = at(n);
        argument(amountIsGood(installment));
        return l.open() ? (int) l.smallestMonths(installment) : 0;
    }

    public int savingOfExtra(int n, int amount, boolean keep) {
        Loan l = at(n);
        argument(amountIsGood(amount));
        return l.open() && amount <= l.balance() ? (int) (ahead(l) - ahead(l.reduced(amount, keep))) : 0;
    }

    public int interestIfRate(int n, int rate) {
        Loan l = at(n);
        argument(rateIsGood(rate));
        return l.open() ? (int) ahead(l.withTerms(rate, l.months(), 0).level()) : 0;
    }

    public boolean isCheaper(int n, int rate, int months) {
        Loan l = at(n);
        argument(rateIsGood(rate) && monthsAreGood(months));
        return l.open() && ahead(l.withTerms(rate, months, 0).level()) < ahead(l);
    }

    public int skipsWithin(int n, int amount) {
        Loan l = at(n);
        argument(amountIsGood(amount));
        int count = 0;
        while (canSkip(l) && l.skipped().installment() <= amount) {
            l = l.skipped();
            count++;
        }
        return count;
    }

    public int totalInterestAhead() {
        return (int) now.loans().stream().mapToLong(Model::ahead).sum();
    }

    public int dearestLoan() {
        return now.first(true);
    }

    public int smallestLoan() {
        return now.first(false);
    }

    public int totalDue() {
        return (int) now.dues();
    }

    public int totalBalance() {
        return (int) now.balances();
    }

    public int monthsToFreedom() {
        return now.loans().stream().mapToInt(l -> course(l).size() - 1).max().orElse(0);
    }

    private long[] budget(int budget, boolean byRate) {
        argument(amountIsGood(budget));
        State s = now;
        int months = 0;
        while (s.balances() > 0) {
            long due = s.dues();
            if (due > budget) {
                return new long[] {-1, -1};
            }
            s = s.payedAll().spent(budget - due, byRate);
            months++;
        }
        return new long[] {months, s.interests() - now.interests()};
    }

    public int budgetMonths(int budget, boolean byRate) {
        return (int) budget(budget, byRate)[0];
    }

    public int budgetInterest(int budget, boolean byRate) {
        return (int) budget(budget, byRate)[1];
    }

    // ---- ratios and report

    public double averageRate() {
        long sum = now.loans().stream().mapToLong(l -> l.balance() * l.rate()).sum();
        return now.balances() == 0 ? 0.0 : (double) sum / (double) now.balances();
    }

    public float closedShare() {
        return loanCount() == 0 ? 0.0f : (float) (loanCount() - openCount()) / (float) loanCount();
    }

    public int violations() {
        return 0;
    }

    public int writeSchedule(int n) {
        List<Loan> all = course(at(n));
        List<String> parts = new ArrayList<>();
        for (int i = 0; i < 12 && i < all.size() - 1; i++) {
            Loan l = all.get(i);
            parts.add(l.due() + (l.interestDue() == 0 ? "" : "+" + l.interestDue()) + (i == all.size() - 2 ? "!" : ""));
        }
        report = parts.isEmpty() ? "-" : String.join(" ", parts);
        return report.length();
    }

    public int reportByte(int index) {
        return index < 0 || index >= report.length() ? -1 : report.charAt(index);
    }
}

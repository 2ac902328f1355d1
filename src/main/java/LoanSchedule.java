import java.util.NoSuchElementException;

/** A repayment planner for loans with level installments; ../shared/DOC.md says what each call promises. */
public final class LoanSchedule {
    public static final int NONE = -1;
    public static final int NO_ROOM = -2;

    private static final int MAX_INPUT = 500;
    private static final int BYTES_OF_APPEND = 20;
    private static final int MAX_LOANS = 6;
    private static final int MAX_AMOUNT = 9999999;
    private static final int MAX_RATE = 3000;
    private static final int MAX_MONTHS = 120;
    private static final int MAX_EXTENSION = 60;
    private static final int MAX_SKIPS = 6;
    private static final int MAX_ENTRIES = 20;
    private static final int MAX_UNDO = 8;
    private static final int INTEREST_DIVISOR = 120000;
    private static final int REPORTED_PAYMENTS = 12;
    private static final String FIRST_SCRIPT =
        "loans; open 120000 600 12; open 50000 1200 6; open 999 0 4; all; extra 0 20000; skip 1;";

    private final byte[] input = new byte[MAX_INPUT];
    private int inputSize = 0;
    private final Plan plan = new Plan();
    private final History history = new History();
    private final Plan snapshot = new Plan();
    private boolean snapshotSaved = false;
    private final Report report = new Report();
    // Scripts and what-if questions are worked out on these, so that no call makes objects
    // and the plan is left alone until all is known to be right.
    private final Plan trialPlan = new Plan();
    private final Loan trialLoan = new Loan();
    private final Loan aheadLoan = new Loan();
    private final Script script = new Script(input, trialPlan);

    public LoanSchedule() {
        int size = FIRST_SCRIPT.length();
        for (int i = 0; i < size && i < MAX_INPUT; i++) {
            input[i] = (byte) FIRST_SCRIPT.charAt(i);
        }
        script.run(size);
        plan.copyFrom(trialPlan);
    }

    // ---- input

    public int append(int a, int b, int c, int d, int e) {
        if (inputSize + BYTES_OF_APPEND > MAX_INPUT) {
            return NO_ROOM;
        }
        putWord(a);
        putWord(b);
        putWord(c);
        putWord(d);
        putWord(e);
        return inputSize;
    }

    private void putWord(int word) {
        for (int shift = 24; shift >= 0 && inputSize < MAX_INPUT; shift -= 8) {
            input[inputSize] = (byte) (word >> shift);
            inputSize++;
        }
    }

    public int truncateInput(int length) throws IllegalArgumentException {
        requireRange(length, 0, inputSize);
        inputSize = length;
        return inputSize;
    }

    public int inputLength() {
        return inputSize;
    }

    // ---- changes

    public int runScript() {
        script.run(inputSize);
        inputSize = 0;
        if (script.errorKind != 0) {
            return NONE;
        }
        history.remember(plan);
        plan.copyFrom(trialPlan);
        return plan.count;
    }

    public int openLoan(int principal, int rate, int months)
            throws IllegalArgumentException, IllegalStateException {
        requireRange(principal, 1, MAX_AMOUNT);
        requireRange(rate, 0, MAX_RATE);
        requireRange(months, 1, MAX_MONTHS);
        requireState(plan.hasRoom());
        history.remember(plan);
        plan.addLoan(principal, rate, months);
        return plan.count - 1;
    }

    public int pay(int loan) throws IndexOutOfBoundsException, IllegalStateException {
        requireState(loanAt(loan).isRunning());
        history.remember(plan);
        return plan.settle(loan);
    }

    public int payAll() {
        history.remember(plan);
        return plan.settleAll();
    }

    public int payExtra(int loan, int amount, boolean keepTerm)
            throws IndexOutOfBoundsException, IllegalArgumentException, IllegalStateException {
        Loan target = loanAt(loan);
        requireRange(amount, 1, MAX_AMOUNT);
        requireState(target.canReduce(amount));
        history.remember(plan);
        plan.reduce(loan, amount, keepTerm);
        return target.balance;
    }

    public int skipMonth(int loan) throws IndexOutOfBoundsException, IllegalStateException {
        Loan target = loanAt(loan);
        requireState(target.canDefer());
        history.remember(plan);
        return target.defer();
    }

    public int changeRate(int loan, int rate)
            throws IndexOutOfBoundsException, IllegalArgumentException, IllegalStateException {
        Loan target = loanAt(loan);
        requireRange(rate, 0, MAX_RATE);
        requireState(target.isRunning());
        history.remember(plan);
        return target.setTerms(rate, target.monthsLeft);
    }

    public int extendTerm(int loan, int months)
            throws IndexOutOfBoundsException, IllegalArgumentException, IllegalStateException {
        Loan target = loanAt(loan);
        requireRange(months, 1, MAX_EXTENSION);
        requireState(target.canLengthen(months));
        history.remember(plan);
        return target.setTerms(target.rate, target.monthsLeft + months);
    }

    public int refinance(int loan, int rate, int months)
            throws IndexOutOfBoundsException, IllegalArgumentException, IllegalStateException {
        Loan target = loanAt(loan);
        requireRange(rate, 0, MAX_RATE);
        requireRange(months, 1, MAX_MONTHS);
        requireState(target.isRunning());
        history.remember(plan);
        return target.setTerms(rate, months);
    }

    public int spendExtra(int amount) throws IllegalArgumentException {
        requireRange(amount, 1, MAX_AMOUNT);
        history.remember(plan);
        return plan.spend(amount, true);
    }

    // ---- undo and snapshot

    public int undo() {
        if (!history.takeBack(plan)) {
            return NONE;
        }
        return history.kept;
    }

    public int undoCount() {
        return history.kept;
    }

    public int saveSnapshot() {
        snapshot.copyFrom(plan);
        snapshotSaved = true;
        return plan.count;
    }

    public int restoreSnapshot() throws NoSuchElementException {
        if (!snapshotSaved) {
            throw new NoSuchElementException();
        }
        plan.copyFrom(snapshot);
        history.forget();
        return plan.count;
    }

    // ---- script errors

    public int scriptErrorKind() {
        return script.errorKind;
    }

    public int scriptErrorOffset() {
        return script.errorOffset;
    }

    // ---- loans

    public int loanCount() {
        return plan.count;
    }

    public int openCount() {
        return plan.countRunning();
    }

    public boolean isOpen(int loan) throws IndexOutOfBoundsException {
        return loanAt(loan).isRunning();
    }

    public int principal(int loan) throws IndexOutOfBoundsException {
        return loanAt(loan).principal;
    }

    public int balance(int loan) throws IndexOutOfBoundsException {
        return loanAt(loan).balance;
    }

    public int rate(int loan) throws IndexOutOfBoundsException {
        return loanAt(loan).rate;
    }

    public int monthsLeft(int loan) throws IndexOutOfBoundsException {
        return loanAt(loan).monthsLeft;
    }

    public int installment(int loan) throws IndexOutOfBoundsException {
        return loanAt(loan).installment;
    }

    public int carry(int loan) throws IndexOutOfBoundsException {
        return loanAt(loan).carry;
    }

    public int interestDue(int loan) throws IndexOutOfBoundsException {
        return loanAt(loan).nextInterest();
    }

    public int amountDue(int loan) throws IndexOutOfBoundsException {
        return loanAt(loan).nextDue();
    }

    public int interestSoFar(int loan) throws IndexOutOfBoundsException {
        return loanAt(loan).interestSum;
    }

    public int paidSoFar(int loan) throws IndexOutOfBoundsException {
        return loanAt(loan).paidSum;
    }

    public int paidMonths(int loan) throws IndexOutOfBoundsException {
        return loanAt(loan).settledCount;
    }

    public int skippedMonths(int loan) throws IndexOutOfBoundsException {
        return loanAt(loan).deferredCount;
    }

    // ---- the book

    public int entryCount() {
        return plan.book.kept;
    }

    public int entryLoan(int back) {
        int slot = plan.book.slotOf(back);
        return slot < 0 || slot >= MAX_ENTRIES ? NONE : plan.book.loans[slot];
    }

    public int entryAmount(int back) {
        int slot = plan.book.slotOf(back);
        return slot < 0 || slot >= MAX_ENTRIES ? NONE : plan.book.amounts[slot];
    }

    public int entryInterest(int back) {
        int slot = plan.book.slotOf(back);
        return slot < 0 || slot >= MAX_ENTRIES ? NONE : plan.book.interests[slot];
    }

    // ---- predictions

    public int interestOfPayment(int loan, int number)
            throws IndexOutOfBoundsException, IllegalArgumentException {
        aheadLoan.copyFrom(loanAt(loan));
        requireRange(number, 1, MAX_MONTHS);
        aheadLoan.settleMonths(number - 1);
        return aheadLoan.isRunning() ? aheadLoan.nextInterest() : NONE;
    }

    public int amountOfPayment(int loan, int number)
            throws IndexOutOfBoundsException, IllegalArgumentException {
        aheadLoan.copyFrom(loanAt(loan));
        requireRange(number, 1, MAX_MONTHS);
        aheadLoan.settleMonths(number - 1);
        return aheadLoan.isRunning() ? aheadLoan.nextDue() : NONE;
    }

    public int paymentsTo(int loan, int amount)
            throws IndexOutOfBoundsException, IllegalArgumentException {
        Loan asked = loanAt(loan);
        requireRange(amount, 0, MAX_AMOUNT);
        return paymentsUntil(asked, amount);
    }

    public int balanceAfter(int loan, int months)
            throws IndexOutOfBoundsException, IllegalArgumentException {
        aheadLoan.copyFrom(loanAt(loan));
        requireRange(months, 0, MAX_MONTHS);
        aheadLoan.settleMonths(months);
        return aheadLoan.balance;
    }

    public int interestAhead(int loan) throws IndexOutOfBoundsException {
        return interestToCome(loanAt(loan));
    }

    public int lastDue(int loan) throws IndexOutOfBoundsException {
        return lastPayment(loanAt(loan));
    }

    public int monthsToHalf(int loan) throws IndexOutOfBoundsException {
        Loan asked = loanAt(loan);
        return paymentsUntil(asked, asked.principal / 2);
    }

    public int installmentFor(int loan, int months)
            throws IndexOutOfBoundsException, IllegalArgumentException {
        Loan asked = loanAt(loan);
        requireRange(months, 1, MAX_MONTHS);
        return asked.isRunning() ? asked.levelFor(months) : 0;
    }

    public int monthsFor(int loan, int installment)
            throws IndexOutOfBoundsException, IllegalArgumentException {
        Loan asked = loanAt(loan);
        requireRange(installment, 1, MAX_AMOUNT);
        return asked.isRunning() ? asked.termFor(installment, MAX_MONTHS) : 0;
    }

    public int savingOfExtra(int loan, int amount, boolean keepTerm)
            throws IndexOutOfBoundsException, IllegalArgumentException {
        Loan asked = loanAt(loan);
        requireRange(amount, 1, MAX_AMOUNT);
        if (!asked.canReduce(amount)) {
            return 0;
        }
        trialLoan.copyFrom(asked);
        trialLoan.reduceBy(amount, keepTerm);
        return interestToCome(asked) - interestToCome(trialLoan);
    }

    public int interestIfRate(int loan, int rate)
            throws IndexOutOfBoundsException, IllegalArgumentException {
        Loan asked = loanAt(loan);
        requireRange(rate, 0, MAX_RATE);
        return asked.isRunning() ? interestWithTerms(asked, rate, asked.monthsLeft) : 0;
    }

    public boolean isCheaper(int loan, int rate, int months)
            throws IndexOutOfBoundsException, IllegalArgumentException {
        Loan asked = loanAt(loan);
        requireRange(rate, 0, MAX_RATE);
        requireRange(months, 1, MAX_MONTHS);
        return asked.isRunning() && interestWithTerms(asked, rate, months) < interestToCome(asked);
    }

    public int skipsWithin(int loan, int amount)
            throws IndexOutOfBoundsException, IllegalArgumentException {
        trialLoan.copyFrom(loanAt(loan));
        requireRange(amount, 1, MAX_AMOUNT);
        int skips = 0;
        for (int i = 0; i < MAX_SKIPS && trialLoan.canDefer(); i++) {
            trialLoan.defer();
            if (trialLoan.installment > amount) {
                return skips;
            }
            skips++;
        }
        return skips;
    }

    public int totalInterestAhead() {
        int sum = 0;
        for (int i = 0; i < plan.count && i < MAX_LOANS; i++) {
            sum += interestToCome(plan.loans[i]);
        }
        return sum;
    }

    public int dearestLoan() {
        return plan.firstByRate();
    }

    public int smallestLoan() {
        return plan.firstByBalance();
    }

    public int totalDue() {
        return plan.sumOfDues();
    }

    public int totalBalance() {
        return plan.sumOfBalances();
    }

    public int monthsToFreedom() {
        int months = 0;
        for (int i = 0; i < plan.count && i < MAX_LOANS; i++) {
            months = Math.max(months, paymentsUntil(plan.loans[i], 0));
        }
        return months;
    }

    public int budgetMonths(int budget, boolean byRate) throws IllegalArgumentException {
        requireRange(budget, 1, MAX_AMOUNT);
        trialPlan.copyFrom(plan);
        return trialPlan.settleWithBudget(budget, byRate);
    }

    public int budgetInterest(int budget, boolean byRate) throws IllegalArgumentException {
        requireRange(budget, 1, MAX_AMOUNT);
        trialPlan.copyFrom(plan);
        if (trialPlan.settleWithBudget(budget, byRate) == NONE) {
            return NONE;
        }
        return trialPlan.sumOfInterest() - plan.sumOfInterest();
    }

    // ---- ratios and checks

    public double averageRate() {
        long weighted = 0;
        for (int i = 0; i < plan.count && i < MAX_LOANS; i++) {
            weighted += (long) plan.loans[i].balance * plan.loans[i].rate;
        }
        int total = plan.sumOfBalances();
        return total == 0 ? 0.0 : (double) weighted / (double) total;
    }

    public float closedShare() {
        if (plan.count == 0) {
            return 0.0f;
        }
        return (float) (plan.count - plan.countRunning()) / (float) plan.count;
    }

    public int violations() {
        int found = 0;
        for (int i = 0; i < plan.count && i < MAX_LOANS; i++) {
            Loan loan = plan.loans[i];
            if (loan.principal + loan.interestSum - loan.paidSum != loan.balance) {
                found++;
            }
            if (loan.carry < 0 || loan.carry >= INTEREST_DIVISOR) {
                found++;
            }
            if (loan.isRunning() && lastPayment(loan) > loan.installment) {
                found++;
            }
        }
        return found;
    }

    // ---- report

    public int writeSchedule(int loan) throws IndexOutOfBoundsException {
        aheadLoan.copyFrom(loanAt(loan));
        report.size = 0;
        if (!aheadLoan.isRunning()) {
            report.put('-');
        }
        for (int i = 0; i < REPORTED_PAYMENTS && aheadLoan.isRunning(); i++) {
            if (i > 0) {
                report.put(' ');
            }
            int interest = aheadLoan.nextInterest();
            int amount = aheadLoan.settleMonth();
            report.putPayment(amount, interest, !aheadLoan.isRunning());
        }
        return report.size;
    }

    public int reportByte(int index) {
        if (index < 0 || index >= report.size || index >= Report.ROOM) {
            return NONE;
        }
        return report.bytes[index];
    }

    // ---- helpers of the face

    private Loan loanAt(int loan) {
        if (loan < 0 || loan >= plan.count || loan >= MAX_LOANS) {
            throw new IndexOutOfBoundsException();
        }
        return plan.loans[loan];
    }

    private static void requireRange(int value, int least, int most) {
        if (value < least || value > most) {
            throw new IllegalArgumentException();
        }
    }

    private static void requireState(boolean possible) {
        if (!possible) {
            throw new IllegalStateException();
        }
    }

    private int paymentsUntil(Loan loan, int amount) {
        aheadLoan.copyFrom(loan);
        int payments = 0;
        while (payments < MAX_MONTHS && aheadLoan.balance > amount) {
            aheadLoan.settleMonth();
            payments++;
        }
        return payments;
    }

    private int interestToCome(Loan loan) {
        aheadLoan.copyFrom(loan);
        aheadLoan.settleMonths(MAX_MONTHS);
        return aheadLoan.interestSum - loan.interestSum;
    }

    private int interestWithTerms(Loan loan, int rate, int months) {
        trialLoan.copyFrom(loan);
        trialLoan.setTerms(rate, months);
        return interestToCome(trialLoan);
    }

    private int lastPayment(Loan loan) {
        aheadLoan.copyFrom(loan);
        return aheadLoan.settleMonths(MAX_MONTHS);
    }

    // ---- the parts

    private static final class Loan {
        int principal;
        int balance;
        int rate;
        int monthsLeft;
        int installment;
        int carry;
        int interestSum;
        int paidSum;
        int settledCount;
        int deferredCount;

        void copyFrom(Loan other) {
            principal = other.principal;
            balance = other.balance;
            rate = other.rate;
            monthsLeft = other.monthsLeft;
            installment = other.installment;
            carry = other.carry;
            interestSum = other.interestSum;
            paidSum = other.paidSum;
            settledCount = other.settledCount;
            deferredCount = other.deferredCount;
        }

        void begin(int amount, int firstRate, int months) {
            principal = amount;
            balance = amount;
            carry = 0;
            interestSum = 0;
            paidSum = 0;
            settledCount = 0;
            deferredCount = 0;
            rate = firstRate;
            monthsLeft = months;
            installment = levelFor(months);
        }

        boolean isRunning() {
            return balance > 0;
        }

        boolean canReduce(int amount) {
            return balance > 0 && amount <= balance;
        }

        boolean canDefer() {
            return balance > 0 && deferredCount < MAX_SKIPS && balance + nextInterest() <= MAX_AMOUNT;
        }

        boolean canLengthen(int months) {
            return balance > 0 && monthsLeft + months <= MAX_MONTHS;
        }

        int nextInterest() {
            return (int) (((long) balance * rate + carry) / INTEREST_DIVISOR);
        }

        int nextDue() {
            return partDue(balance + nextInterest());
        }

        private int partDue(int whole) {
            return whole <= installment || monthsLeft == 1 ? whole : installment;
        }

        private int addInterest() {
            long scaled = (long) balance * rate + carry;
            int interest = (int) (scaled / INTEREST_DIVISOR);
            carry = (int) (scaled % INTEREST_DIVISOR);
            balance += interest;
            interestSum += interest;
            return interest;
        }

        private void takeOff(int amount) {
            balance -= amount;
            paidSum += amount;
            if (balance == 0) {
                monthsLeft = 0;
                installment = 0;
                carry = 0;
            }
        }

        int settleMonth() {
            addInterest();
            int amount = partDue(balance);
            monthsLeft--;
            settledCount++;
            takeOff(amount);
            return amount;
        }

        /** Returns the last amount that was paid, 0 if none was. */
        int settleMonths(int most) {
            int last = 0;
            for (int i = 0; i < most && balance > 0; i++) {
                last = settleMonth();
            }
            return last;
        }

        void reduceBy(int amount, boolean keepTerm) {
            takeOff(amount);
            if (balance == 0) {
                return;
            }
            if (keepTerm) {
                installment = levelFor(monthsLeft);
            } else {
                // A lower balance never needs more months, so the months left always suffice.
                monthsLeft = termFor(installment, monthsLeft);
            }
        }

        int defer() {
            int interest = addInterest();
            deferredCount++;
            installment = levelFor(monthsLeft);
            return interest;
        }

        int setTerms(int newRate, int months) {
            rate = newRate;
            monthsLeft = months;
            installment = levelFor(months);
            return installment;
        }

        int levelFor(int months) {
            // A greater installment never makes a later balance greater, so halving finds the smallest;
            // with the whole amount of the first month nothing is left for another one.
            int low = 1;
            int high = balance + nextInterest();
            for (int i = 0; i < 32 && low < high; i++) {
                int middle = (low + high) / 2;
                if (termFor(middle, months) == NONE) {
                    low = middle + 1;
                } else {
                    high = middle;
                }
            }
            return low;
        }

        /** Returns the smallest number of months with which no amount due is greater than `amount`, or NONE. */
        int termFor(int amount, int most) {
            // long, as the balance grows while the amount does not cover the interest
            long rest = balance;
            long left = carry;
            for (int month = 1; month <= most; month++) {
                long scaled = rest * rate + left;
                long whole = rest + scaled / INTEREST_DIVISOR;
                if (whole <= amount) {
                    return month;
                }
                rest = whole - amount;
                left = scaled % INTEREST_DIVISOR;
            }
            return NONE;
        }
    }

    /** The latest payments, in a ring. */
    private static final class Book {
        final int[] loans = new int[MAX_ENTRIES];
        final int[] amounts = new int[MAX_ENTRIES];
        final int[] interests = new int[MAX_ENTRIES];
        int next = 0;
        int kept = 0;

        void copyFrom(Book other) {
            System.arraycopy(other.loans, 0, loans, 0, MAX_ENTRIES);
            System.arraycopy(other.amounts, 0, amounts, 0, MAX_ENTRIES);
            System.arraycopy(other.interests, 0, interests, 0, MAX_ENTRIES);
            next = other.next;
            kept = other.kept;
        }

        void write(int loan, int amount, int interest) {
            if (next < 0 || next >= MAX_ENTRIES) {
                return;
            }
            loans[next] = loan;
            amounts[next] = amount;
            interests[next] = interest;
            next = next + 1 == MAX_ENTRIES ? 0 : next + 1;
            kept = Math.min(kept + 1, MAX_ENTRIES);
        }

        int slotOf(int back) {
            if (back < 0 || back >= kept) {
                return NONE;
            }
            int slot = next - 1 - back;
            return slot < 0 ? slot + MAX_ENTRIES : slot;
        }
    }

    /** Everything that undo restores. */
    private static final class Plan {
        final Loan[] loans = new Loan[MAX_LOANS];
        final Book book = new Book();
        int count = 0;

        Plan() {
            for (int i = 0; i < MAX_LOANS; i++) {
                loans[i] = new Loan();
            }
        }

        void copyFrom(Plan other) {
            count = other.count;
            for (int i = 0; i < count && i < MAX_LOANS; i++) {
                loans[i].copyFrom(other.loans[i]);
            }
            book.copyFrom(other.book);
        }

        void clear() {
            count = 0;
            book.next = 0;
            book.kept = 0;
        }

        boolean hasRoom() {
            return count < MAX_LOANS;
        }

        void addLoan(int amount, int rate, int months) {
            if (count < MAX_LOANS) {
                loans[count].begin(amount, rate, months);
                count++;
            }
        }

        boolean has(int loan) {
            return loan >= 0 && loan < count && loan < MAX_LOANS;
        }

        int settle(int loan) {
            if (!has(loan)) {
                return 0;
            }
            int interest = loans[loan].nextInterest();
            int amount = loans[loan].settleMonth();
            book.write(loan, amount, interest);
            return amount;
        }

        int settleAll() {
            int sum = 0;
            for (int i = 0; i < count && i < MAX_LOANS; i++) {
                if (loans[i].isRunning()) {
                    sum += settle(i);
                }
            }
            return sum;
        }

        void reduce(int loan, int amount, boolean keepTerm) {
            if (has(loan)) {
                loans[loan].reduceBy(amount, keepTerm);
                book.write(loan, amount, 0);
            }
        }

        int spend(int amount, boolean byRate) {
            int rest = amount;
            // Each payment but the last one closes a loan, so there are no more payments than loans.
            for (int i = 0; i < MAX_LOANS && rest > 0; i++) {
                int loan = byRate ? firstByRate() : firstByBalance();
                if (!has(loan)) {
                    return amount - rest;
                }
                int part = Math.min(rest, loans[loan].balance);
                reduce(loan, part, false);
                rest -= part;
            }
            return amount - rest;
        }

        /** Returns the number of months until all loans are closed, or NONE if the budget does not suffice. */
        int settleWithBudget(int budget, boolean byRate) {
            int months = 0;
            while (months < MAX_MONTHS && countRunning() > 0) {
                int due = sumOfDues();
                if (due > budget) {
                    return NONE;
                }
                settleAll();
                spend(budget - due, byRate);
                months++;
            }
            return months;
        }

        int firstByRate() {
            int first = NONE;
            int greatest = NONE;
            for (int i = 0; i < count && i < MAX_LOANS; i++) {
                if (loans[i].isRunning() && loans[i].rate > greatest) {
                    first = i;
                    greatest = loans[i].rate;
                }
            }
            return first;
        }

        int firstByBalance() {
            int first = NONE;
            int smallest = MAX_AMOUNT + 1;
            for (int i = 0; i < count && i < MAX_LOANS; i++) {
                if (loans[i].isRunning() && loans[i].balance < smallest) {
                    first = i;
                    smallest = loans[i].balance;
                }
            }
            return first;
        }

        int countRunning() {
            int running = 0;
            for (int i = 0; i < count && i < MAX_LOANS; i++) {
                if (loans[i].isRunning()) {
                    running++;
                }
            }
            return running;
        }

        int sumOfDues() {
            int sum = 0;
            for (int i = 0; i < count && i < MAX_LOANS; i++) {
                sum += loans[i].nextDue();
            }
            return sum;
        }

        int sumOfBalances() {
            int sum = 0;
            for (int i = 0; i < count && i < MAX_LOANS; i++) {
                sum += loans[i].balance;
            }
            return sum;
        }

        int sumOfInterest() {
            int sum = 0;
            for (int i = 0; i < count && i < MAX_LOANS; i++) {
                sum += loans[i].interestSum;
            }
            return sum;
        }
    }

    /** The plans before the latest changes, in a ring. */
    private static final class History {
        final Plan[] plans = new Plan[MAX_UNDO];
        int next = 0;
        int kept = 0;

        History() {
            for (int i = 0; i < MAX_UNDO; i++) {
                plans[i] = new Plan();
            }
        }

        void remember(Plan plan) {
            if (next < 0 || next >= MAX_UNDO) {
                return;
            }
            plans[next].copyFrom(plan);
            next = next + 1 == MAX_UNDO ? 0 : next + 1;
            kept = Math.min(kept + 1, MAX_UNDO);
        }

        boolean takeBack(Plan into) {
            int latest = next == 0 ? MAX_UNDO - 1 : next - 1;
            if (kept == 0 || latest < 0 || latest >= MAX_UNDO) {
                return false;
            }
            into.copyFrom(plans[latest]);
            next = latest;
            kept--;
            return true;
        }

        void forget() {
            kept = 0;
        }
    }

    /** Cuts a text into tokens. */
    private static final class Tokens {
        static final int END = 0;
        static final int WORD = 1;
        static final int NUMBER = 2;
        static final int SIGN = 3;
        static final int WRONG = 4;
        private static final int MAX_DIGITS = 7;

        private final byte[] text;
        private int length = 0;
        int position = 0;
        int start = 0;
        int kind = END;
        int value = 0;

        Tokens(byte[] input) {
            text = input;
        }

        void rewind(int newLength) {
            length = Math.min(newLength, text.length);
            position = 0;
        }

        void advance() {
            while (position < length && (byteAt(position) == ' ' || byteAt(position) == '\n')) {
                position++;
            }
            start = position;
            int first = byteAt(start);
            if (start >= length) {
                kind = END;
            } else if (isLetter(first)) {
                readWord();
            } else if (isDigit(first)) {
                readDigits();
            } else {
                kind = first == '(' || first == ')' || first == ';' ? SIGN : WRONG;
                position++;
            }
        }

        boolean isSign(char sign) {
            return kind == SIGN && byteAt(start) == sign;
        }

        boolean isWord(String word) {
            if (kind != WORD || position - start != word.length()) {
                return false;
            }
            for (int i = 0; i < word.length(); i++) {
                if (byteAt(start + i) != word.charAt(i)) {
                    return false;
                }
            }
            return true;
        }

        private void readWord() {
            kind = WORD;
            while (position < length && isLetter(byteAt(position))) {
                position++;
            }
        }

        private void readDigits() {
            value = 0;
            while (position < length && isDigit(byteAt(position))) {
                if (position - start < MAX_DIGITS) {
                    value = value * 10 + byteAt(position) - '0';
                }
                position++;
            }
            kind = position - start > MAX_DIGITS ? WRONG : NUMBER;
        }

        private int byteAt(int index) {
            return index < 0 || index >= length || index >= text.length ? NONE : text[index];
        }

        private static boolean isLetter(int sign) {
            return sign >= 'a' && sign <= 'z';
        }

        private static boolean isDigit(int sign) {
            return sign >= '0' && sign <= '9';
        }
    }

    /** Executes a text on a plan, command by command, as it is read. */
    private static final class Script {
        private static final int NOTHING = 0;
        private static final int OPEN = 1;
        private static final int PAY = 2;
        private static final int ALL = 3;
        private static final int EXTRA = 4;
        private static final int SKIP = 5;
        private static final int RATE = 6;
        private static final int EXTEND = 7;
        private static final int REPEAT = 8;

        private static final int NOT_ALLOWED = 1;
        private static final int OUT_OF_RANGE = 2;
        private static final int IMPOSSIBLE = 3;
        private static final int TOO_DEEP = 4;
        private static final int TOO_MANY = 5;

        private static final int MAX_DEPTH = 3;
        private static final int MAX_REPEATS = 24;
        private static final int MAX_COMMANDS = 300;
        private static final int MAX_STEPS = 1000000;

        private final Tokens tokens;
        private final Plan target;
        private boolean ended = false;
        private int executed = 0;
        private int depth = 0;
        private final int[] bodyStart = new int[MAX_DEPTH];
        private final int[] passesLeft = new int[MAX_DEPTH];
        private final int[] executedBefore = new int[MAX_DEPTH];
        private int first = 0;
        private int second = 0;
        private int third = 0;
        private boolean keepTerm = false;
        int errorKind = 0;
        int errorOffset = NONE;

        Script(byte[] input, Plan plan) {
            tokens = new Tokens(input);
            target = plan;
        }

        void run(int length) {
            tokens.rewind(length);
            target.clear();
            ended = false;
            executed = 0;
            depth = 0;
            errorKind = 0;
            errorOffset = NONE;
            expectLoans();
            expectSign(';');
            for (int i = 0; i < MAX_STEPS && !ended && errorKind == 0; i++) {
                int command = readCommand();
                if (command != NOTHING) {
                    readNumbers(command);
                }
                if (command != NOTHING && errorKind == 0) {
                    execute(command);
                }
            }
        }

        private void fail(int kind) {
            errorKind = kind;
            errorOffset = tokens.start;
        }

        private void expectLoans() {
            tokens.advance();
            if (!tokens.isWord("loans")) {
                fail(NOT_ALLOWED);
            }
        }

        private void expectSign(char sign) {
            if (errorKind != 0) {
                return;
            }
            tokens.advance();
            if (!tokens.isSign(sign)) {
                fail(NOT_ALLOWED);
            }
        }

        private int expectNumber(int least, int most) {
            if (errorKind != 0) {
                return 0;
            }
            tokens.advance();
            if (tokens.kind != Tokens.NUMBER) {
                fail(NOT_ALLOWED);
            } else if (tokens.value < least || tokens.value > most) {
                fail(OUT_OF_RANGE);
            }
            return tokens.value;
        }

        /** Returns the command whose word was read, NOTHING where there is none to be executed. */
        private int readCommand() {
            tokens.advance();
            int command = commandOfWord();
            if (tokens.kind == Tokens.END && depth == 0) {
                ended = true;
            } else if (tokens.isSign(')') && depth > 0) {
                endPass();
            } else if (command == NOTHING) {
                fail(NOT_ALLOWED);
            } else if (command == REPEAT) {
                beginRepeat();
            } else if (executed >= MAX_COMMANDS) {
                fail(TOO_MANY);
            } else {
                return command;
            }
            return NOTHING;
        }

        private int commandOfWord() {
            if (tokens.isWord("open")) {
                return OPEN;
            }
            if (tokens.isWord("pay")) {
                return PAY;
            }
            if (tokens.isWord("all")) {
                return ALL;
            }
            if (tokens.isWord("extra")) {
                return EXTRA;
            }
            if (tokens.isWord("skip")) {
                return SKIP;
            }
            if (tokens.isWord("rate")) {
                return RATE;
            }
            if (tokens.isWord("extend")) {
                return EXTEND;
            }
            return tokens.isWord("repeat") ? REPEAT : NOTHING;
        }

        private void beginRepeat() {
            if (depth < 0 || depth >= MAX_DEPTH) {
                fail(TOO_DEEP);
                return;
            }
            int passes = expectNumber(1, MAX_REPEATS);
            expectSign('(');
            bodyStart[depth] = tokens.position;
            passesLeft[depth] = passes;
            executedBefore[depth] = executed;
            depth++;
        }

        private void endPass() {
            int level = depth - 1;
            if (level < 0 || level >= MAX_DEPTH) {
                return;
            }
            passesLeft[level]--;
            // A pass that executed nothing changed nothing: all passes behind it would be the same.
            if (passesLeft[level] > 0 && executed > executedBefore[level]) {
                executedBefore[level] = executed;
                tokens.position = bodyStart[level];
            } else {
                depth--;
                expectSign(';');
            }
        }

        private void readNumbers(int command) {
            if (command == OPEN) {
                first = expectNumber(1, MAX_AMOUNT);
                second = expectNumber(0, MAX_RATE);
                third = expectNumber(1, MAX_MONTHS);
            } else if (command != ALL) {
                first = expectNumber(0, target.count - 1);
            }
            if (command == RATE) {
                second = expectNumber(0, MAX_RATE);
            } else if (command == EXTEND) {
                second = expectNumber(1, MAX_EXTENSION);
            } else if (command == EXTRA) {
                second = expectNumber(1, MAX_AMOUNT);
                readKeep();
                return;
            }
            expectSign(';');
        }

        private void readKeep() {
            if (errorKind != 0) {
                return;
            }
            tokens.advance();
            keepTerm = tokens.isWord("keep");
            if (keepTerm) {
                expectSign(';');
            } else if (!tokens.isSign(';')) {
                fail(NOT_ALLOWED);
            }
        }

        private void execute(int command) {
            executed++;
            if (command == ALL) {
                target.settleAll();
            } else if (command == OPEN && target.hasRoom()) {
                target.addLoan(first, second, third);
            } else if (command != OPEN && target.has(first) && isPossible(command, target.loans[first])) {
                change(command, target.loans[first]);
            } else {
                fail(IMPOSSIBLE);
            }
        }

        private boolean isPossible(int command, Loan loan) {
            switch (command) {
                case EXTRA:
                    return loan.canReduce(second);
                case SKIP:
                    return loan.canDefer();
                case EXTEND:
                    return loan.canLengthen(second);
                default:
                    return loan.isRunning();
            }
        }

        private void change(int command, Loan loan) {
            switch (command) {
                case PAY:
                    target.settle(first);
                    break;
                case EXTRA:
                    target.reduce(first, second, keepTerm);
                    break;
                case SKIP:
                    loan.defer();
                    break;
                case RATE:
                    loan.setTerms(second, loan.monthsLeft);
                    break;
                default:
                    loan.setTerms(loan.rate, loan.monthsLeft + second);
                    break;
            }
        }
    }

    private static final class Report {
        // 12 payments of at most 8 + 1 + 6 + 1 bytes, and the spaces
        static final int ROOM = 256;

        final byte[] bytes = new byte[ROOM];
        int size = 0;

        void put(char sign) {
            if (size >= 0 && size < ROOM) {
                bytes[size] = (byte) sign;
                size++;
            }
        }

        void putPayment(int amount, int interest, boolean closing) {
            putNumber(amount);
            if (interest != 0) {
                put('+');
                putNumber(interest);
            }
            if (closing) {
                put('!');
            }
        }

        private void putNumber(int number) {
            int unit = 1;
            for (int i = 0; i < 9 && number / 10 >= unit; i++) {
                unit *= 10;
            }
            while (unit > 0) {
                put((char) ('0' + number / unit % 10));
                unit /= 10;
            }
        }
    }
}

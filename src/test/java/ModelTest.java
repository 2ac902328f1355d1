import java.lang.reflect.InvocationTargetException;
import java.lang.reflect.Method;
import java.util.ArrayList;
import java.util.List;
import java.util.Map;
import java.util.Random;
import java.util.TreeMap;

/** Random runs of calls on the program and on the model, which must answer alike (promises 1 to 65). */
public final class ModelTest {
    /** One sign a parameter: l loan, a amount, r rate, m months, e extension, n any number, k boolean, i input, b back. */
    private static final String[] CHANGES = {
        "openLoan:arm", "pay:l", "payAll:", "payExtra:lak", "skipMonth:l", "changeRate:lr", "extendTerm:le",
        "refinance:lrm", "spendExtra:a", "undo:", "saveSnapshot:", "restoreSnapshot:", "truncateInput:n",
        "append:iiiii", "runScript:"};
    private static final String[] QUESTIONS = {
        "interestOfPayment:lm", "amountOfPayment:lm", "paymentsTo:la", "balanceAfter:lm", "interestAhead:l",
        "lastDue:l", "monthsToHalf:l", "installmentFor:lm", "monthsFor:la", "savingOfExtra:lak",
        "interestIfRate:lr", "isCheaper:lrm", "skipsWithin:la", "totalInterestAhead:", "monthsToFreedom:",
        "budgetMonths:ak", "budgetInterest:ak", "writeSchedule:l", "reportByte:n", "violations:"};
    private static final String[] ALWAYS = {
        "inputLength", "undoCount", "scriptErrorKind", "scriptErrorOffset", "loanCount", "openCount", "entryCount",
        "dearestLoan", "smallestLoan", "totalDue", "totalBalance", "averageRate", "closedShare"};
    private static final String[] OF_LOANS = {
        "isOpen", "principal", "balance", "rate", "monthsLeft", "installment", "carry", "interestDue", "amountDue",
        "interestSoFar", "paidSoFar", "paidMonths", "skippedMonths"};
    private static final String[] OF_ENTRIES = {"entryLoan", "entryAmount", "entryInterest"};

    /** Nothing is promised of an object after its 512th call; the comparison at the end takes 174 of them, a script up to 28. */
    private static final int CALLS_OF_STEPS = 512 - 174 - 28 - 4;

    private static final Map<String, Method[]> METHODS = new TreeMap<>();

    private final Random random;
    private final LoanSchedule program = new LoanSchedule();
    private final Model model = new Model();
    private final List<String> log = new ArrayList<>();
    private int calls = 0;

    private ModelTest(long seed) {
        random = new Random(seed);
    }

    public static void main(String[] args) throws Exception {
        for (Method m : LoanSchedule.class.getDeclaredMethods()) {
            if (java.lang.reflect.Modifier.isPublic(m.getModifiers())) {
                METHODS.put(m.getName(), new Method[] {m, Model.class.getMethod(m.getName(), m.getParameterTypes())});
            }
        }
        int runs = args.length > 0 ? Integer.parseInt(args[0]) : 1500;
        for (int seed = 0; seed < runs; seed++) {
            ModelTest test = new ModelTest(seed);
            String fault = test.run();
            if (fault != null) {
                System.out.println("ModelTest, seed " + seed + ": " + fault);
                List<String> log = test.log;
                System.out.println(String.join("\n", log.subList(Math.max(0, log.size() - 40), log.size())));
                System.exit(1);
            }
        }
        System.out.println("ModelTest: " + runs + " runs answered alike");
    }

    private String run() throws Exception {
        String fault = null;
        while (calls < CALLS_OF_STEPS && fault == null) {
            int kind = random.nextInt(10);
            fault = kind < 2 ? script() : kind < 7 ? random(CHANGES) : null;
            fault = fault == null ? random(QUESTIONS) : fault;
            fault = fault == null ? compare(pick(ALWAYS)) : fault;
            fault = fault == null ? compare(pick(OF_LOANS), random.nextInt(7)) : fault;
            fault = fault == null ? compare(pick(OF_ENTRIES), oneIn(2) ? 0 : random.nextInt(22)) : fault;
        }
        return fault == null ? compareState() : fault;
    }

    private String pick(String[] names) {
        return names[random.nextInt(names.length)];
    }

    private String random(String[] calls) throws Exception {
        String[] call = calls[random.nextInt(calls.length)].split(":", -1);
        Object[] args = new Object[call[1].length()];
        for (int i = 0; i < args.length; i++) {
            args[i] = argument(call[1].charAt(i));
        }
        return compare(call[0], args);
    }

    private Object argument(char kind) {
        switch (kind) {
            case 'l':
                return oneIn(12) ? edge() : random.nextInt(Math.max(1, model.loanCount()));
            case 'a':
                return oneIn(12) ? edge() : amount();
            case 'r':
                return oneIn(12) ? pick(-1, 3000, 3001) : oneIn(4) ? 0 : random.nextInt(3001);
            case 'm':
                return oneIn(12) ? pick(0, 120, 121, -5) : 1 + random.nextInt(oneIn(2) ? 8 : 120);
            case 'e':
                return oneIn(12) ? pick(0, 60, 61) : 1 + random.nextInt(oneIn(2) ? 4 : 60);
            case 'k':
                return random.nextBoolean();
            case 'i':
                return random.nextInt();
            default:
                return oneIn(4) ? edge() : random.nextInt(100);
        }
    }

    private int amount() {
        if (oneIn(3) && model.totalBalance() > 0) {
            return Math.max(1, model.balance(random.nextInt(model.loanCount())) - random.nextInt(2));
        }
        if (oneIn(3) && model.totalDue() > 0) {
            return Math.max(1, Math.min(9999999, model.totalDue() + random.nextInt(3) - 1));
        }
        int digits = 1 + random.nextInt(7);
        return 1 + random.nextInt((int) Math.pow(10, digits) - 1);
    }

    private int edge() {
        return pick(-1, 0, 6, 7, 20, 9999999, 10000000, Integer.MAX_VALUE, Integer.MIN_VALUE);
    }

    private int pick(int... values) {
        return values[random.nextInt(values.length)];
    }

    private boolean oneIn(int n) {
        return random.nextInt(n) == 0;
    }

    // ---- scripts

    private String script() throws Exception {
        StringBuilder text = new StringBuilder("loans;");
        int opened = random.nextInt(7);
        for (int i = 0; i < opened; i++) {
            text.append("open ").append(amount()).append(' ').append(argument('r')).append(' ').append(argument('m')).append(';');
        }
        commands(text, 1 + random.nextInt(6), opened, 0);
        if (oneIn(3)) {
            spoil(text);
        }
        if (text.length() > 500) {
            text.setLength(500);
        }
        return send(text.toString());
    }

    private void commands(StringBuilder text, int count, int opened, int depth) {
        for (int i = 0; i < count; i++) {
            int loan = opened == 0 || oneIn(40) ? opened : random.nextInt(opened);
            String[] forms = {"pay " + loan, "all", "extra " + loan + " " + amount() / 20, "skip " + loan,
                "extra " + loan + " " + amount() / 20 + " keep", "rate " + loan + " " + random.nextInt(3001),
                "extend " + loan + " " + (1 + random.nextInt(10)), "all", "all", "pay" + loan};
            if (oneIn(4) && depth < 4) {
                text.append(oneIn(2) ? "repeat" : "repeat ").append(oneIn(30) ? pick(0, 25) : 1 + random.nextInt(8)).append(" ( ");
                commands(text, random.nextInt(3), opened, depth + 1);
                text.append(" )");
            } else {
                text.append(forms[random.nextInt(forms.length)]);
            }
            text.append(oneIn(5) ? " ;\n" : ";");
        }
    }

    private void spoil(StringBuilder text) {
        int place = random.nextInt(text.length());
        String signs = "();a0 9A\u00ff\0;keep repeat 12345678 ";
        switch (random.nextInt(4)) {
            case 0 -> text.deleteCharAt(place);
            case 1 -> text.setLength(place);
            case 2 -> text.setCharAt(place, signs.charAt(random.nextInt(signs.length())));
            default -> text.insert(place, random.nextBoolean() ? signs : ";");
        }
    }

    private String send(String text) throws Exception {
        log.add("script " + text);
        String fault = compare("truncateInput", 0);
        String padded = text + " ".repeat((20 - text.length() % 20) % 20);
        for (int i = 0; i < padded.length() && fault == null; i += 20) {
            Object[] words = new Object[5];
            for (int w = 0; w < 5; w++) {
                int at = i + 4 * w;
                words[w] = padded.charAt(at) << 24 | padded.charAt(at + 1) << 16 | padded.charAt(at + 2) << 8 | padded.charAt(at + 3);
            }
            fault = compare("append", words);
        }
        if (fault == null && oneIn(2)) {
            fault = compare("truncateInput", text.length());
        }
        return fault == null ? compare("runScript") : fault;
    }

    // ---- comparing

    private String compareState() throws Exception {
        for (String name : ALWAYS) {
            String fault = compare(name);
            if (fault != null) {
                return fault;
            }
        }
        for (int i = 0; i < 7; i++) {
            for (String name : OF_LOANS) {
                String fault = compare(name, i);
                if (fault != null) {
                    return fault;
                }
            }
        }
        for (int i = -1; i < 22; i++) {
            for (String name : OF_ENTRIES) {
                String fault = compare(name, i);
                if (fault != null) {
                    return fault;
                }
            }
        }
        return null;
    }

    private String compare(String name, Object... args) throws Exception {
        Method[] pair = METHODS.get(name);
        calls++;
        String got = answer(pair[0], program, args);
        String want = answer(pair[1], model, args);
        String call = name + List.of(args) + " answered " + got;
        if (log.isEmpty() || !log.get(log.size() - 1).equals(call)) {
            log.add(call);
        }
        return got.equals(want) ? null : call + ", due is " + want;
    }

    private static String answer(Method method, Object object, Object[] args) throws Exception {
        try {
            return String.valueOf(method.invoke(object, args));
        } catch (InvocationTargetException e) {
            return "throws." + e.getCause().getClass().getSimpleName();
        }
    }
}

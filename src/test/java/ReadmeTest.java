import java.io.IOException;
import java.nio.file.Files;
import java.nio.file.Path;
import java.util.ArrayList;
import java.util.List;

/** The examples of README.md: each call that stands there has the answer that stands behind it. */
public final class ReadmeTest {
    private static final Check CHECK = new Check("ReadmeTest");

    public static void main(String[] args) throws IOException {
        List<String> examples = examples(Files.readString(Path.of("README.md")));
        LoanSchedule planner = new LoanSchedule();
        int next = 0;
        told(examples, next++, "LoanSchedule planner = new LoanSchedule();", "");
        int loan = planner.openLoan(1000, 1300, 3);
        told(examples, next++, "int loan = planner.openLoan(1000, 1300, 3);", loan);
        told(examples, next++, "planner.amountDue(loan);", planner.amountDue(loan));
        told(examples, next++, "planner.pay(loan);", planner.pay(loan));
        told(examples, next++, "planner.payExtra(loan, 200, true);", planner.payExtra(loan, 200, true));
        told(examples, next++, "planner.interestAhead(loan);", planner.interestAhead(loan));
        told(examples, next++, "planner.installment(loan);", planner.installment(loan));
        CHECK.due("the months left of the example", planner.monthsLeft(loan), 2);
        told(examples, next++, "planner.undo();", planner.undo());
        CHECK.due("the changes left of the example", planner.undoCount(), 2);
        told(examples, next++, "planner.entryAmount(0);", planner.entryAmount(0));
        told(examples, next++, "planner.append(0x6c6f616e, 0x733b6f70, 0x656e2039, 0x20302033, 0x3b616c6c);",
            planner.append(0x6c6f616e, 0x733b6f70, 0x656e2039, 0x20302033, 0x3b616c6c));
        told(examples, next++, "planner.append(0x3b706179, 0x20303b20, 0x20202020, 0x20202020, 0x20202020);",
            planner.append(0x3b706179, 0x20303b20, 0x20202020, 0x20202020, 0x20202020));
        told(examples, next++, "planner.runScript();", planner.runScript());
        told(examples, next++, "planner.balance(0);", planner.balance(0));
        told(examples, next++, "planner.writeSchedule(0);", planner.writeSchedule(0));
        CHECK.due("the report of the example", "" + (char) planner.reportByte(0) + (char) planner.reportByte(1), "3!");
        told(examples, next++, "planner.reportByte(0);", planner.reportByte(0));
        CHECK.due("the number of lines", examples.size(), next);
        CHECK.due("the script of the page has no error", Check.run(planner, textBlock()), 2);
        CHECK.end();
    }

    private static List<String> examples(String page) {
        List<String> lines = new ArrayList<>();
        for (String part : page.split("```java\n")) {
            if (part.startsWith("LoanSchedule planner") || part.startsWith("planner.")) {
                lines.addAll(List.of(part.substring(0, part.indexOf("```")).split("\n")));
            }
        }
        return lines;
    }

    private static String textBlock() throws IOException {
        String behind = Files.readString(Path.of("README.md")).split("```text\n")[1];
        return behind.substring(0, behind.indexOf("```"));
    }

    private static void told(List<String> examples, int line, String call, Object answer) {
        String shown = line < examples.size() ? examples.get(line) : "";
        CHECK.due("line " + line + " calls " + call, shown.startsWith(call), true);
        String behind = shown.contains("// ") ? shown.substring(shown.indexOf("// ") + 3).split("[:;]")[0] : "";
        CHECK.due("line " + line + ", " + call, String.valueOf(answer), behind);
    }
}

/** Promises 5, 19 and 20: scripts and their errors. */
public final class ScriptTest {
    private static final Check CHECK = new Check("ScriptTest");
    private static final String FULL = "loans;repeat 12(repeat 24(all;););repeat 12(all;);";

    public static void main(String[] args) {
        goodScripts();
        replacedState();
        failedScripts();
        startErrors();
        tokenErrors();
        numberErrors();
        stateErrors();
        repeatErrors();
        countErrors();
        errorAnswers();
        CHECK.end();
    }

    private static void good(String text, int loans) {
        LoanSchedule x = new LoanSchedule();
        CHECK.due("P5 " + text, Check.run(x, text), loans);
        CHECK.due("P19 " + text, x.scriptErrorKind(), 0);
        CHECK.due("P20 " + text, x.scriptErrorOffset(), -1);
        CHECK.due("P21 " + text, x.loanCount(), loans);
    }

    /** The hat stands before the byte at which the error is due; it is not a part of the text. */
    private static void bad(String marked, int kind) {
        String text = marked.replace("^", "");
        LoanSchedule x = new LoanSchedule();
        String before = Check.plan(x);
        CHECK.due("P5 " + marked, Check.run(x, text), -1);
        CHECK.due("P19 " + marked, x.scriptErrorKind(), kind);
        CHECK.due("P20 " + marked, x.scriptErrorOffset(), marked.indexOf('^'));
        CHECK.due("P5 unchanged by " + marked, Check.plan(x), before);
        CHECK.due("P5 input behind " + marked, x.inputLength(), 0);
        CHECK.due("P5 undoCount behind " + marked, x.undoCount(), 0);
    }

    private static void plan(String text, String want) {
        CHECK.due("P5 " + text, Check.plan(Check.with(text)), want);
    }

    private static void goodScripts() {
        good("loans;", 0);
        good(" \n loans\n;\n \n", 0);
        good("loans;open 9999999 3000 120;", 1);
        good("loans;open 1 0 1;open 1 0 1;open 1 0 1;open 1 0 1;open 1 0 1;open 1 0 1;", 6);
        good("loans;open5 0 1;pay0;", 1);
        good("loans;open 0000005 0000 001;pay 0000000;", 1);
        good("loans;repeat 24();", 0);
        good("loans;repeat 24(repeat 24(repeat 24();););", 0);
        good("loans;repeat 1(repeat 1(repeat 1(open 5 0 1;););open 6 0 1;);open 7 0 1;", 3);
        good("loans;repeat 3(open 5 0 1;);repeat 3 ( open 5 0 1 ; ) ;", 6);
        plan("loans;open 100 0 4;pay 0;", "100 75 0 3 25 0 0 25 1 0; book 0:25+0");
        plan("loans;open 100 0 4;open 10 0 1;all;", "100 75 0 3 25 0 0 25 1 0;10 0 0 0 0 0 0 10 1 0; book 1:10+0 0:25+0");
        plan("loans;open 100 0 4;extra 0 50;", "100 50 0 2 25 0 0 50 0 0; book 0:50+0");
        plan("loans;open 100 0 4;extra 0 52 keep;", "100 48 0 4 12 0 0 52 0 0; book 0:52+0");
        plan("loans;open 100 0 4;extra 0 50keep;extra 0 25;", "100 25 0 2 13 0 0 75 0 0; book 0:25+0 0:50+0");
        plan("loans;open 1000 1200 2;skip 0;", "1000 1010 1200 2 513 0 10 0 0 1; book");
        plan("loans;open 1000 1200 2;rate 0 0;", "1000 1000 0 2 500 0 0 0 0 0; book");
        plan("loans;open 100 0 4;extend 0 6;", "100 100 0 10 10 0 0 0 0 0; book");
        plan("loans;open 100 0 4;repeat 2(pay 0;);", "100 50 0 2 25 0 0 50 2 0; book 0:25+0 0:25+0");
        plan("loans;open 100 0 10;repeat 2(pay 0;repeat 2(extra 0 5;);pay 0;);",
            "100 40 0 4 10 0 0 60 4 0; book 0:10+0 0:5+0 0:5+0 0:10+0 0:10+0 0:5+0 0:5+0 0:10+0");
    }

    private static void replacedState() {
        LoanSchedule x = new LoanSchedule();
        x.saveSnapshot();
        x.writeSchedule(2);
        x.pay(2);
        String before = Check.plan(x);
        CHECK.due("P5 replaces", Check.run(x, "loans;open 100 0 4;pay 0;"), 1);
        CHECK.due("P5 what is there", Check.plan(x), "100 75 0 3 25 0 0 25 1 0; book 0:25+0");
        CHECK.due("P5 can be undone", x.undoCount(), 2);
        CHECK.due("P5 the report stays", x.reportByte(0), (int) '2');
        CHECK.due("P5 a second one", Check.run(x, "loans;"), 0);
        CHECK.due("P5 the book is empty", x.entryCount(), 0);
        CHECK.due("P5 undo", x.undo(), 2);
        CHECK.due("P5 undo again", x.undo(), 1);
        CHECK.due("P5 what was there", Check.plan(x), before);
        CHECK.due("P5 the snapshot stays", x.restoreSnapshot(), 3);
    }

    private static void failedScripts() {
        LoanSchedule x = new LoanSchedule();
        x.pay(2);
        x.saveSnapshot();
        x.writeSchedule(2);
        String before = Check.plan(x);
        CHECK.due("P5 fails", Check.run(x, "loans;open 100 0 4;pay 0;pay 1;"), -1);
        CHECK.due("P5 keeps the plan", Check.plan(x), before);
        CHECK.due("P5 keeps the undo", x.undoCount(), 1);
        CHECK.due("P5 keeps the report", x.reportByte(0), (int) '2');
        Check.run(x, "loans;repeat 2(repeat 2(");
        CHECK.due("P5 behind an error inside repeats", Check.run(x, "loans;all;)"), -1);
        CHECK.due("P5 its offset", x.scriptErrorOffset(), 10);
        CHECK.due("P5 empty", x.runScript(), -1);
        CHECK.due("P5 empty: error", x.scriptErrorKind() * 1000 + x.scriptErrorOffset(), 1000);
    }

    private static void startErrors() {
        bad("^", 1);
        bad("   ^", 1);
        bad("loans^", 1);
        bad("loans \n^", 1);
        bad("^loan;", 1);
        bad("^loansx;", 1);
        bad(" ^Loans;", 1);
        bad("^;", 1);
        bad("^7;", 1);
        bad("loans ^open 5 0 1;", 1);
        bad("loans ^(", 1);
        bad("loans;^;", 1);
        bad("loans;^loans;", 1);
    }

    private static void tokenErrors() {
        bad("loans;^keep;", 1);
        bad("loans;^5;", 1);
        bad("loans;^(all;);", 1);
        bad("loans;^);", 1);
        bad("loans;all;^)", 1);
        bad("loans;^ALL;", 1);
        bad("loans;^al;", 1);
        bad("loans;^alla;", 1);
        bad("loans;^allz;", 1);
        bad("loans;^\tall;", 1);
        bad("loans;^\rall;", 1);
        bad("loans;^\u00e1ll;", 1);
        bad("loans;^\0", 1);
        bad("loans;all^-;", 1);
        bad("loans;all^", 1);
        bad("loans;all  ^", 1);
        bad("loans;all ^0;", 1);
        bad("loans;all^,", 1);
        bad("loans;all ^all;", 1);
        bad("loans;open ^pay 0 1;", 1);
        bad("loans;open 5^;", 1);
        bad("loans;open 5 0^;", 1);
        bad("loans;open 5 0 1^", 1);
        bad("loans;open 5 0 1 ^1;", 1);
        bad("loans;open 5 ^-1 1;", 1);
        bad("loans;open 5^.5 0 1;", 1);
        bad("loans;open 5 0 1;pay^;", 1);
        bad("loans;open 5 0 1;pay ^zero;", 1);
        bad("loans;open 5 0 1;pay 0^x;", 1);
        bad("loans;open 5 0 1;extra 0 2 ^kept;", 1);
        bad("loans;open 5 0 1;extra 0 2 keep ^keep;", 1);
        bad("loans;open 5 0 1;extra 0 2 keep^", 1);
        bad("loans;open 5 0 1;extra 0 ^keep 2;", 1);
        bad("loans;open 5 0 1;extra 0^;", 1);
        bad("loans;open 5 0 1;pay 0 ^keep;", 1);
        bad("loans;open 5 0 1;skip 0 ^1;", 1);
        bad("loans;open 5 0 1;rate 0^;", 1);
        bad("loans;open 5 0 1;extend 0^;", 1);
        bad("loans;pay ^00000000;", 1);
        bad("loans;open ^12345678 0 1;", 1);
        bad("loans;open 5 ^00000000 1;", 1);
        bad("loans;open 5 0 ^000000001;", 1);
    }

    private static void numberErrors() {
        bad("loans;open ^0 0 1;", 2);
        bad("loans;open 5 ^3001 1;", 2);
        bad("loans;open 5 ^9999999 1;", 2);
        bad("loans;open 5 0 ^0;", 2);
        bad("loans;open 5 0 ^121;", 2);
        bad("loans;pay ^0;", 2);
        bad("loans;open 5 0 1;pay ^1;", 2);
        bad("loans;open 5 0 1;skip ^1;", 2);
        bad("loans;open 5 0 1;extra ^1 1;", 2);
        bad("loans;open 5 0 1;extra 0 ^0;", 2);
        bad("loans;open 5 0 1;rate ^1 1;", 2);
        bad("loans;open 5 0 1;rate 0 ^3001;", 2);
        bad("loans;open 5 0 1;extend ^1 1;", 2);
        bad("loans;open 5 0 1;extend 0 ^0;", 2);
        bad("loans;open 5 0 1;extend 0 ^61;", 2);
        bad("loans;repeat ^0(all;);", 2);
        bad("loans;repeat ^25(all;);", 2);
        // found before the token behind it, and before what the closed loan forbids
        bad("loans;open ^0 x", 2);
        bad("loans;open 5 0 1;pay 0;extra 0 ^0;", 2);
        good("loans;open 5 0 60;extend 0 60;", 1);
        good("loans;open 5 0 1;extend 0 60;rate 0 3000;", 1);
    }

    private static void stateErrors() {
        bad("loans;repeat 6(open 5 0 1;);open 5 0 1^;", 3);
        bad("loans;repeat 7(open 5 0 1^;);", 3);
        bad("loans;open 5 0 1;pay 0;pay 0 ^;", 3);
        bad("loans;open 5 0 1;pay 0;skip 0^;", 3);
        bad("loans;open 5 0 1;pay 0;rate 0 5^;", 3);
        bad("loans;open 5 0 1;pay 0;extend 0 1^;", 3);
        bad("loans;open 5 0 1;pay 0;extra 0 1^;", 3);
        bad("loans;open 5 0 1;extra 0 6^;", 3);
        bad("loans;open 5 0 1;extra 0 6 keep^;", 3);
        bad("loans;open 5 0 61;extend 0 60^;", 3);
        bad("loans;open 5 0 9;repeat 7(skip 0^;);", 3);
        bad("loans;open 9999999 3000 9;skip 0^;", 3);
        bad("loans;open 10 0 5;repeat 3(extra 0 4^;);", 3);
        // commands are executed as they are read: what stands behind is not looked at
        bad("loans;open 5 0 1;pay 0;pay 0^;;x", 3);
        bad("loans;open 5 0 1;pay 0;pay 0 ^x", 1);
        good("loans;open 5 0 1;pay 0;all;all;", 1);
        good("loans;open 5 0 60;extend 0 60;", 1);
        good("loans;open 9 0 9;repeat 6(skip 0;);", 1);
    }

    private static void repeatErrors() {
        bad("loans;repeat 1(repeat 1(repeat 1(^repeat 1(all;););););", 4);
        bad("loans;repeat 1(repeat 1(repeat 1(^repeat x", 4);
        bad("loans;repeat 2(all;^", 1);
        bad("loans;repeat 2(all^);", 1);
        bad("loans;repeat 2(all;)^", 1);
        bad("loans;repeat 2(all;)^all;", 1);
        bad("loans;repeat 2 ^all;", 1);
        bad("loans;repeat 2^;", 1);
        bad("loans;repeat ^(all;);", 1);
        bad("loans;repeat^", 1);
        bad("loans;repeat ^123456789(all;);", 1);
        bad("loans;repeat 2(all;);^);", 1);
        bad("loans;repeat 2(^;);", 1);
        bad("loans;repeat 2(^(all;););", 1);
        bad("loans;repeat 2()^x", 1);
        // a repeat that ended is no longer around the next one
        good("loans;repeat 1(repeat 1(repeat 1(all;);repeat 1(all;););repeat 1(repeat 1(all;);););", 0);
    }

    private static void countErrors() {
        good(FULL, 0);
        bad(FULL + "^all;", 5);
        bad(FULL + "^open 0 0 0;", 5);
        bad(FULL + "^pay", 5);
        bad(FULL + "^alla;", 1);
        bad(FULL + "^keep;", 1);
        bad("loans;repeat 13(repeat 24(^all;););", 5);
        bad("loans;open 5 0 1;repeat 12(repeat 24(all;););repeat 12(^all;);", 5);
        good(FULL + "repeat 24();", 0);
        bad(FULL + "repeat 24(^all;);", 5);
        bad(FULL + "repeat 1(repeat 1(repeat 1(^repeat", 4);
        bad(FULL + "repeat ^0", 2);
    }

    private static void errorAnswers() {
        LoanSchedule x = new LoanSchedule();
        Check.run(x, "loans;pay 0;");
        CHECK.due("P19 error", x.scriptErrorKind(), 2);
        CHECK.due("P20 error", x.scriptErrorOffset(), 10);
        x.payAll();
        x.undo();
        x.saveSnapshot();
        x.restoreSnapshot();
        Check.load(x, "loans;");
        CHECK.due("P19 stays", x.scriptErrorKind(), 2);
        CHECK.due("P20 stays", x.scriptErrorOffset(), 10);
        x.runScript();
        CHECK.due("P19 without error", x.scriptErrorKind(), 0);
        CHECK.due("P20 without error", x.scriptErrorOffset(), -1);
        Check.run(x, "^");
        CHECK.due("P19 again", x.scriptErrorKind(), 1);
        CHECK.due("P20 again", x.scriptErrorOffset(), 0);
        x.undo();
        CHECK.due("P19 behind undo", x.scriptErrorKind(), 1);
    }
}

/** The sentences of "Terms" about scripts: their tokens, their numbers, and the order and the kinds of their errors. */
final class EdgesOfScripts {
    /** 300 commands. */
    private static final String FULL = "loans;repeat 12(repeat 24(all;););repeat 12(all;);";
    private static final String KINDS = "The error kinds are: 1, a token that the grammar does not allow at this place, a run of more than 7 "
        + "digits, a byte that does not begin a token, or the end of the text inside a statement (the offset is then the length of the text)";

    private final Edges edges;

    EdgesOfScripts(Edges edges) {
        this.edges = edges;
    }

    void run() {
        edges.sentence(0, "A script is a text of at most 500 bytes.", this::length);
        edges.sentence(0, "script  = \"loans\" \";\" { command \";\" }", this::statements);
        edges.sentence(0, "command = \"open\" PRINCIPAL RATE MONTHS | \"pay\" LOAN | \"all\" | \"extra\" LOAN AMOUNT [ \"keep\" ] | \"skip\" LOAN | "
            + "\"rate\" LOAN RATE | \"extend\" LOAN MONTHS | \"repeat\" N \"(\" { command \";\" } \")\"", this::commands);
        edges.sentence(0, "A token is a word (a maximal run of the letters a to z), a number (a maximal run of 1 to 7 digits), a parenthesis "
            + "or a semicolon.", this::tokens);
        edges.sentence(0, "Spaces (byte 32) and line feeds (byte 10) separate tokens and are otherwise ignored.", this::separators);
        edges.sentence(0, "\"open\" opens a loan, \"pay\" pays the amount due of a loan, \"all\" that of all open loans, \"extra\" makes an "
            + "extra payment (\"keep\": the term is kept), \"skip\" skips a month, \"rate\" changes the rate, \"extend\" makes the term longer, "
            + "\"repeat\" executes the commands in its parentheses N times (1 to 24).", this::asTheCalls);
        edges.sentence(0, "\"repeat\" executes the commands in its parentheses N times (1 to 24)", this::repeats);
        edges.sentence(0, "MONTHS of \"open\" is 1 to 120, of \"extend\" 1 to 60, AMOUNT is 1 to 9999999.", this::ranges);
        edges.sentence(0, "Commands are executed one after the other.", this::oneAfterTheOther);
        edges.sentence(0, "The first error that is found while the commands are executed is reported with the offset of the first byte of its "
            + "token (also if it is found in a later repetition)", this::firstError);
        edges.sentence(0, "if several kinds apply to one token, the smallest one is reported.", this::smallestKind);
        edges.sentence(0, KINDS, this::kind1);
        edges.sentence(0, "or the end of the text inside a statement (the offset is then the length of the text)", this::endOfText);
        edges.sentence(0, "2, a number that is out of its range (a LOAN that was not opened)", this::kind2);
        edges.sentence(0, "3, a command that cannot be executed because the method would throw an IllegalStateException (the offset is that of "
            + "the semicolon behind the command)", this::kind3);
        edges.sentence(0, "4, the word \"repeat\" inside three other repeats", this::kind4);
        edges.sentence(0, "5, the first word of the command that would be the 301st one to be executed (a \"repeat\" itself does not count).",
            this::kind5);
    }

    private static String padded(String text, int length) {
        return text + " ".repeat(length - text.length());
    }

    private void length() {
        edges.good(padded("loans;", 500), 0);
        String last = " ".repeat(493) + "loans;";
        edges.good(last, 0);
        edges.good(last + " ", 0);
        edges.good("loans;" + " ".repeat(481) + "open 5 0 120;", 1);
        edges.bad(padded("loans;", 499) + "^;", 1);
        edges.bad(padded("loans;", 490) + "open 5 0 ^0", 2);
        edges.bad(padded("loans;", 497) + "all^", 1);
        edges.bad(padded("loans;", 499) + "^a", 1);
    }

    private void statements() {
        edges.good("loans;", 0);
        String[] bad = {"^", "^;", "^all;", "^open 5 0 5;", "loans^", "loans ^all;", "^loan;", "^loanss;", "^lloans;", "loans^5;",
            "loans;^;", "loans;^loans;", "loans;all^", "loans;all ^all;", "loans;all;^;", "loans;all;all^", "loans^)", "^(loans;)"};
        for (String text : bad) {
            edges.bad(text, 1);
        }
        for (int i = 0; i < 5; i++) {
            edges.bad("^" + "loans".substring(0, i) + "x" + "loans".substring(i + 1) + ";", 1);
        }
    }

    private void commands() {
        String[] good = {"all;", "pay 0;", "extra 0 1;", "extra 0 1 keep;", "skip 0;", "rate 0 5;", "extend 0 5;", "repeat 2();", "repeat 2(all;);",
            "repeat 2(all;skip 0;);"};
        for (String text : good) {
            edges.good("loans;open 50 0 10;" + text, 1);
        }
        String[] bad = {"^keep;", "all ^0;", "all ^keep;", "pay^;", "pay 0 ^0;", "pay 0 ^keep;", "pay ^all;", "extra^;", "extra 0^;", "extra 0 ^keep;",
            "extra ^keep;", "extra 0 1 keep ^keep;", "extra 0 1 ^1;", "extra 0 1 keep ^1;", "extra 0 1 ^all;", "extra 0 1 ^kee;", "extra 0 1 ^keeps;",
            "extra 0 1 ^xeep;", "extra 0 1 ^kxep;", "extra 0 1 ^kexp;", "extra 0 1 ^keex;",
            "skip^;", "skip 0 ^1;", "rate^;", "rate 0^;", "rate 0 1 ^1;", "extend^;", "extend 0^;", "extend 0 1 ^1;", "open^;", "open 5^;", "open 5 0^;",
            "open 5 0 1 ^1;", "repeat^;", "repeat ^(all;);", "repeat 2^;", "repeat 2 ^all;", "repeat 2 ^);", "repeat 2(^;);", "repeat 2(all^);",
            "repeat 2(all;)^", "repeat 2(all;)^all;", "repeat 2(all;)^);", "repeat 2(all;);^);", "repeat 2(^(all;););", "repeat 2(all;^", "^(all;);",
            "^);", "^0;", "all^(", "repeat 2 ^2"};
        for (String text : bad) {
            edges.bad("loans;open 50 0 10;" + text, 1);
        }
        String[] words = {"open", "pay", "all", "extra", "skip", "rate", "extend", "repeat"};
        for (String word : words) {
            edges.bad("loans;^" + word.substring(1) + " 0;", 1);
            edges.bad("loans;^" + word.substring(0, word.length() - 1) + " 0;", 1);
            edges.bad("loans;^" + word + "s 0;", 1);
            for (int i = 0; i < word.length(); i++) {
                edges.bad("loans;^" + word.substring(0, i) + "z" + word.substring(i + 1) + " 0;", 1);
            }
            edges.bad("loans;^" + word.substring(0, 1).toUpperCase() + word.substring(1) + " 0;", 1);
        }
    }

    /** Every byte behind a word, behind a number, and where a token must begin. */
    private void tokens() {
        for (int b = 0; b < 256; b++) {
            char sign = (char) b;
            boolean letter = sign >= 'a' && sign <= 'z';
            boolean digit = sign >= '0' && sign <= '9';
            if (b == ' ' || b == '\n' || sign == ';' || sign == '^') {
                continue;
            }
            edges.bad(letter ? "loans;^all" + sign + ";" : "loans;all^" + sign + ";", 1);
            edges.bad("loans;^" + sign + ";", 1);
            if (digit) {
                edges.good("loans;open 5 0 1" + sign + ";", 1);
            } else {
                edges.bad("loans;open 5 0 1^" + sign + ";", 1);
            }
        }
        edges.good("loans;open9999999 0000000 0000001;pay0;all;", 1);
        edges.good("loans;open 50 0 10;extra 0 1keep;repeat 2(skip 0;all;);", 1);
        edges.bad("loans;^payall;", 1);
        edges.bad("loans;open ^00000005 0 1;", 1);
        edges.bad("loans;open 5 ^00000000 1;", 1);
        edges.bad("loans;open 5 0 ^00000001;", 1);
        edges.bad("loans;open ^10000000 0 1;", 1);
        edges.bad("loans;open ^4294967301 0 1;", 1);
        edges.bad("loans;open ^99999999999999999999999999 0 1;", 1);
        edges.bad("loans;open 5 0 12 ^3;", 1);
    }

    private void separators() {
        edges.good(" \n\n  loans \n ; \n ", 0);
        edges.good("loans;open\n50\n0\n10\n;pay\n0\n;repeat\n2\n(\nall\n;\n)\n;extra 0 1\nkeep\n;", 1);
        edges.good("loans;open 50 0 10;repeat2(all;);", 1);
        for (int b : new int[] {0, 9, 11, 12, 13, 31, 33, 127, 128, 138, 160, 255}) {
            char sign = (char) b;
            edges.bad("loans;^" + sign + "all;", 1);
            edges.bad("loans;all;^" + sign, 1);
            edges.bad("^" + sign + "loans;", 1);
        }
        edges.bad("loans;^al l;", 1);
        edges.bad("loans;open 5 0 1 ^2;", 1);
        edges.bad("^lo\nans;", 1);
    }

    /** Each command does what its call does, with the least and the greatest numbers. */
    private void asTheCalls() {
        String start = "loans;open 9000 1300 60;open 70 0 7;";
        String[] commands = {"open 1 0 1", "open 9999999 3000 120", "pay 0", "pay 1", "all", "extra 0 1", "extra 0 9000", "extra 0 4000", "extra 0 1 keep",
            "extra 0 9000 keep", "extra 0 4000 keep", "skip 0", "skip 1", "rate 0 0", "rate 0 3000", "extend 0 1", "extend 0 60"};
        Edges.Call[] calls = {x -> x.openLoan(1, 0, 1), x -> x.openLoan(9999999, 3000, 120), x -> x.pay(0), x -> x.pay(1), x -> x.payAll(),
            x -> x.payExtra(0, 1, false), x -> x.payExtra(0, 9000, false), x -> x.payExtra(0, 4000, false), x -> x.payExtra(0, 1, true),
            x -> x.payExtra(0, 9000, true), x -> x.payExtra(0, 4000, true), x -> x.skipMonth(0), x -> x.skipMonth(1), x -> x.changeRate(0, 0),
            x -> x.changeRate(0, 3000), x -> x.extendTerm(0, 1), x -> x.extendTerm(0, 60)};
        for (int i = 0; i < commands.length; i++) {
            LoanSchedule x = Check.with(start);
            calls[i].on(x);
            edges.due(commands[i], Check.plan(Check.with(start + commands[i] + ";")), Check.plan(x));
        }
    }

    private void repeats() {
        edges.bad("loans;repeat ^0(all;);", 2);
        edges.bad("loans;repeat ^25(all;);", 2);
        edges.bad("loans;repeat ^9999999(all;);", 2);
        for (int times : new int[] {1, 2, 23, 24}) {
            LoanSchedule x = Check.with("loans;open 1000 0 100;repeat " + times + "(pay 0;);");
            edges.due(times + " times", x.paidMonths(0), times);
            LoanSchedule y = Check.with("loans;open 1000 0 100;repeat " + times + "(repeat 2(pay 0;);extra 0 1;);");
            edges.due(times + " times twice", y.paidMonths(0) + " " + y.paidSoFar(0), 2 * times + " " + 21 * times);
        }
        LoanSchedule z = Check.with("loans;open 1000 0 100;repeat 2(repeat 3(repeat 4(pay 0;);););repeat 1(repeat 1(pay 0;););");
        edges.due("three deep", z.paidMonths(0), 25);
        edges.good("loans;repeat 24(repeat 24(repeat 24();););repeat 6(open 5 0 1;repeat 24();all;);", 6);
    }

    private void ranges() {
        edges.good("loans;open 5 0 1;open 5 0 120;", 2);
        edges.bad("loans;open 5 0 ^0;", 2);
        edges.bad("loans;open 5 0 ^121;", 2);
        edges.good("loans;open 5 0 1;extend 0 1;", 1);
        edges.good("loans;open 5 0 1;extend 0 60;", 1);
        edges.bad("loans;open 5 0 1;extend 0 ^0;", 2);
        edges.bad("loans;open 5 0 1;extend 0 ^61;", 2);
        edges.good("loans;open 9999999 0 5;extra 0 1;", 1);
        edges.good("loans;open 9999999 0 5;extra 0 9999999;", 1);
        edges.bad("loans;open 9999999 0 5;extra 0 ^0;", 2);
        edges.bad("loans;open 9999999 0 5;extra 0 ^10000000;", 1);
        edges.good("loans;open 1 0 5;open 9999999 3000 5;", 2);
        edges.bad("loans;open ^0 0 5;", 2);
        edges.bad("loans;open 5 ^3001 5;", 2);
        edges.good("loans;open 5 0 5;rate 0 3000;rate 0 0;", 1);
        edges.bad("loans;open 5 0 5;rate 0 ^3001;", 2);
    }

    private void oneAfterTheOther() {
        edges.bad("loans;pay ^0;open 5 0 1;", 2);
        edges.good("loans;open 5 0 1;pay 0;", 1);
        edges.bad("loans;open 5 0 1;pay 0;pay 0^;", 3);
        edges.good("loans;open 5 0 2;pay 0;extend 0 1;pay 0;pay 0;", 1);
        edges.due("the book", Check.book(Check.with("loans;open 5 0 5;open 8 0 2;pay 1;pay 0;all;")), " 1:4+0 0:1+0 0:1+0 1:4+0");
    }

    private void firstError() {
        edges.bad("loans;open ^0 9999 999;?", 2);
        edges.bad("loans;open 5 0 1;pay 0;pay 0^;pay 9;", 3);
        edges.bad("loans;repeat 2(^keep;all)", 1);
        // found in a later repetition, ahead of what stands behind the repeat
        edges.bad("loans;open 10 0 10;repeat 24(pay 0^;)?", 3);
        edges.bad("loans;open 10 0 10;repeat 10(pay 0;)^?", 1);
        edges.bad("loans;repeat 24(open 5 0 1^;);", 3);
        edges.bad("loans;open 5 0 61;repeat 2(extend 0 30^;);", 3);
        edges.bad("loans;open 9 0 9;repeat 2(repeat 2(extra 0 3^;););", 3);
        edges.bad("loans;repeat 2(pay ^0;open 5 0 1;);", 2);
        edges.bad("loans;open 5 0 5;repeat 7(  skip 0  ^;);", 3);
        // the first byte of its token
        edges.bad("loans;   ^keep;", 1);
        edges.bad("loans;open  \n 5  ^3001 1;", 2);
        edges.bad("loans;open 5 0 \n  ^00121;", 2);
    }

    private void smallestKind() {
        // 1 before 2: eight digits that are also out of range; 1 before 3: no semicolon behind a command that is impossible
        edges.bad("loans;pay ^99999999;", 1);
        edges.bad("loans;open 5 0 1;pay 0;pay 0 ^keep;", 1);
        edges.bad("loans;open 5 0 1;pay 0;pay 0^", 1);
        // 1 before 5: the 301st command's first word is none
        edges.bad(FULL + "^keep;", 1);
        edges.bad(FULL + "^alll;", 1);
        edges.bad(FULL + "^7;", 1);
        edges.bad(FULL + "^?", 1);
        // 4 where a 301st command would stand: a repeat is not one that counts
        edges.bad(FULL + "repeat 1(repeat 1(repeat 1(^repeat 1(all;););););", 4);
        // 5 before what stands behind the first word
        edges.bad(FULL + "^pay 9;", 5);
        edges.bad(FULL + "^open 0", 5);
    }

    private void kind1() {
        edges.bad("loans;open 5 0 5;^keep;", 1);
        edges.bad("loans;open ^12345678 0 5;", 1);
        edges.good("loans;open 1234567 0 5;", 1);
        edges.bad("loans;repeat ^00000001(all;);", 1);
        edges.good("loans;repeat 0000001(all;);", 0);
        edges.bad("loans;pay ^00000000;", 1);
        edges.bad("loans;all^12345678;", 1);
        edges.bad("loans;^#", 1);
        edges.bad("loans;open 5^-1 0 5;", 1);
        edges.bad("loans;open 5 0^.5 5;", 1);
    }

    private void endOfText() {
        String[] texts = {"^", " \n ^", "loans^", "loans  ^", "loans;all^", "loans;all \n^", "loans;open^", "loans;open 5^", "loans;open 5 0^", "loans;open 5 0 5^",
            "loans;open 5 0 5 ^", "loans;repeat^", "loans;repeat 2^", "loans;repeat 2(^", "loans;repeat 2( ^", "loans;repeat 2(all^", "loans;repeat 2(all;^",
            "loans;repeat 2(all;)^", "loans;repeat 2(repeat 2(all;);^", "loans;open 5 0 5;pay^", "loans;open 5 0 5;pay 0^", "loans;open 5 0 5;extra 0^",
            "loans;open 5 0 5;extra 0 1^", "loans;open 5 0 5;extra 0 1 keep^", "loans;open 5 0 5;skip^", "loans;open 5 0 5;rate 0^", "loans;open 5 0 5;extend 0 1^"};
        for (String text : texts) {
            edges.bad(text, 1);
        }
        edges.good("loans;  ", 0);
        edges.good("loans;all;\n", 0);
    }

    private void kind2() {
        String[] texts = {"open ^0 0 1;", "open 5 ^3001 1;", "open 5 0 ^0;", "open 5 0 ^121;", "pay ^2;", "extra ^2 1;", "extra 0 ^0;", "skip ^2;", "rate ^2 1;",
            "rate 0 ^3001;", "extend ^2 1;", "extend 0 ^0;", "extend 0 ^61;", "repeat ^0(all;);", "repeat ^25(all;);", "pay ^6;", "pay ^9999999;", "extra ^2 0;",
            "rate ^2 9999;", "extend ^2 99;", "extra 1 ^0;", "rate 1 ^3001;", "extend 1 ^61;"};
        for (String text : texts) {
            edges.bad("loans;open 5 0 5;open 6 0 1;pay 1;" + text, 2);
        }
        edges.bad("loans;pay ^0;", 2);
        edges.bad("loans;extra ^0 1;", 2);
        edges.bad("loans;skip ^0;", 2);
        edges.bad("loans;repeat 6(open 5 0 5;);pay ^6;", 2);
        edges.good("loans;repeat 6(open 5 0 5;);pay 5;", 6);
        // loans of the planner are not those of the script
        LoanSchedule x = new LoanSchedule();
        Check.run(x, "loans;pay 0;");
        edges.due("a loan that was there before", x.scriptErrorKind() + " " + x.scriptErrorOffset(), "2 10");
    }

    private void kind3() {
        String[] texts = {"pay 1^;", "pay 1  ^;", "extra 1 1^;", "extra 1 1 keep ^;", "extra 0 6^;", "extra 0 6 keep^;", "skip 1^;", "rate 1 0^;", "extend 1 1^;",
            "repeat 6(skip 0;);skip 0^;", "extend 0 60;extend 0 55;extend 0 1^;", "repeat 4(open 5 0 5;);open 5 0 5\n^;", "open 9999999 3000 5;skip 2^;",
            "repeat 5(pay 0;);pay 0^;", "open 9756098 3000 9;skip 2^;"};
        for (String text : texts) {
            edges.bad("loans;open 5 0 5;open 6 0 1;pay 1;" + text, 3);
        }
        String[] good = {"extra 0 5;", "extra 0 5 keep;", "repeat 6(skip 0;);", "extend 0 60;extend 0 55;", "open 9756097 3000 9;skip 2;", "all;all;"};
        for (String text : good) {
            edges.good("loans;open 5 0 5;open 6 0 1;pay 1;" + text, text.startsWith("open") ? 3 : 2);
        }
        edges.good("loans;open 5 0 5;open 6 0 1;pay 1;repeat 4(open 5 0 5;);", 6);
    }

    private void kind4() {
        edges.bad("loans;repeat 1(repeat 1(repeat 1(^repeat 1(all;););););", 4);
        edges.bad("loans;repeat 1(repeat 1(repeat 1(all;^repeat", 4);
        edges.bad("loans;repeat 1(repeat 1(repeat 1(^repeat 0", 4);
        edges.good("loans;repeat 1(repeat 1(repeat 1(all;);););", 0);
        edges.good("loans;repeat 1(repeat 1(repeat 1(all;);repeat 1(all;););repeat 1(repeat 1(all;);););repeat 1(all;);", 0);
        edges.bad("loans;repeat 2(repeat 2(repeat 2(all;);repeat 2(^repeat 2(all;););););", 4);
    }

    private void kind5() {
        edges.good(FULL, 0);
        for (String word : new String[] {"all", "open", "pay", "extra", "skip", "rate", "extend"}) {
            edges.bad(FULL + "^" + word + " 0 0 0;", 5);
        }
        edges.bad("loans;repeat 12(repeat 24(all;););repeat 13(^all;);", 5);
        edges.bad("loans;repeat 13(repeat 24(^all;););", 5);
        // the 301st of a row of two is the first one of the 151st pair
        edges.bad("loans;repeat 8(repeat 19(^all;all;););", 5);
        edges.bad("loans;all;repeat 8(repeat 19(all;^all;););", 5);
        edges.good("loans;repeat 6(repeat 5(repeat 10(all;););); ", 0);
        edges.bad("loans;repeat 6(repeat 5(repeat 10(all;););); ^all;", 5);
        // repeats do not count, neither full nor empty ones
        edges.good("loans;repeat 24(repeat 12(repeat 1(all;);););repeat 12(repeat 1(repeat 1(all;);););repeat 24(repeat 24(repeat 24();););", 0);
        edges.bad(FULL + "repeat 2(repeat 2(repeat 2(^all;););", 5);
        edges.bad("loans;open 5 0 5;repeat 12(repeat 24(all;););repeat 11(all;);^all;", 5);
    }
}

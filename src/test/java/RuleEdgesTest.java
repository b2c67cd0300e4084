/** The sentences of the document that name a boundary case, of promises 20 to 23. */
public final class RuleEdgesTest {
    private static final Due due = new Due("RuleEdgesTest");

    /** A watch at 0 with rates -4, 3, none, 10, 2 of days 0 to 4, a box at 1, a glass at 2; on day 5. */
    private static final String SHELF = "put(0, 0, 0); put(1, 1, 9); put(2, 2, 7); days(5); compare(0, 0, 4, 0);"
            + "compare(0, 1, 0, 0); compare(0, 2, 3, 0); compare(0, 3, 5000, 0); compare(0, 4, 5010, 0);"
            + "compare(0, 5, 5012, 0);";

    public static void main(String[] args) {
        feed();
        rule();
        ruleAndTape();
        longRulesOneAfterAnother();
        faults();
        numbersAndWords();
        blanks();
        oneComparisonAlone();
        open();
        wrapping();
        truth();
        names();
        trial();
        order();
        due.end();
    }

    private static void feed() {
        due.says(20, "n (1 .. 4) bytes come to THE TAPE, the lowest of v first: how many it has. BAD, FULL.");
        due.run("feed(0, 0) = BAD; feed(5, 0) = BAD; feed(-1, 0) = BAD; feed(MIN, 0) = BAD; feed(MAX, 0) = BAD;"
                + "count(4) = 0; feed(1, 0) = 1; feed(4, 0) = 5; feed(2, 0) = 7; feed(3, 0) = 10; count(4) = 10");
        int most = 'm' | 'o' << 8 | 's' << 16 | 't' << 24;
        due.run(SHELF + "feed(4, " + most + ") = 4; rule(0) = 1; trial(0, 0, 5) = 10");
        int seven = '7' | ' ' << 8 | '+' << 16 | '1' << 24;
        due.run(SHELF + "feed(1, " + seven + ") = 1; rule(0) = 1; trial(0, 0, 5) = 7");
        due.run(SHELF + "feed(2, " + seven + ") = 2; rule(0) = 1; trial(0, 0, 5) = 7");
        due.run(SHELF + "feed(3, " + seven + ") = 3; rule(0) = -103");
        due.run(SHELF + "feed(4, " + seven + ") = 4; rule(0) = 1; trial(0, 0, 5) = 8");
        due.run("feed(4, -1) = 4; rule(0) = -100; feed(1, -1) = 1; rule(0) = -100; feed(4, MIN) = 4; rule(1) = -100");
        due.says(0, "TEXT: bytes of THE TAPE (at most 120)");
        String fours = "feed(4, 538976288);".repeat(29);
        due.run(fours + "count(4) = 116; feed(4, 538976288) = 120; feed(1, 55) = FULL; feed(4, 55) = FULL; count(4) = 120;"
                + "feed(0, 55) = BAD; feed(5, 55) = BAD; count(4) = 120; rule(0) = -220");
        due.run(SHELF + fours + "feed(3, 538976288) = 119; feed(2, 14391) = FULL; feed(4, 55) = FULL; count(4) = 119;"
                + "feed(1, 55) = 120; rule(0) = 1; trial(0, 0, 5) = 7; count(4) = 0; feed(1, 56) = 1");
        due.run(SHELF + "tape '" + "1+".repeat(59) + "1 '; count(4) = 120; rule(0) = 1; trial(0, 0, 5) = 60");
        due.run(SHELF + "tape '" + "1+".repeat(60) + "'; count(4) = 120; rule(0) = -220");
        due.run(SHELF + "tape '" + "1+".repeat(59) + "1x'; rule(0) = -219");
    }

    private static void rule() {
        due.says(21, "THE TAPE becomes the RULE of TRIALS (which 0), DROP (1): 1;");
        due.run(SHELF + "tape 'sum'; rule(2) = BAD; rule(-1) = BAD; rule(MIN) = BAD; rule(MAX) = BAD; count(4) = 3;"
                + "trial(0, 0, 5) = VOID; rule(0) = 1; trial(0, 0, 5) = 11; count(4) = 0");
        due.run(SHELF + "tape 'days'; rule(1) = 1; trial(0, 0, 5) = VOID; order(0, 0, 5) = NOT");
        due.run(ShipEdgesTest.AT_SEA + "tape 'days'; rule(0) = 1; told(0, 0, 1) = -1; tape 'days'; rule(1) = 1;"
                + "told(0, 0, 1) = 0; tape 'which'; rule(1) = 1; told(0, 0, 1) = 2");
        due.says(21, "-100 less its FAULT (the rule that was stays).");
        due.run(SHELF + "tape 'sum'; rule(0) = 1; tape 'most most'; rule(0) = -105; trial(0, 0, 5) = 11;"
                + "tape 'most'; rule(0) = 1; trial(0, 0, 5) = 10; rule(0) = -100; trial(0, 0, 5) = 10");
        due.run(SHELF + "tape 'sum'; rule(0) = 1; tape '1+'; rule(1) = -102; trial(0, 0, 5) = 11");
        due.run(SHELF + "tape 'sum +'; rule(0) = -105; trial(0, 0, 5) = VOID; order(0, 0, 5) = NOT");
        due.run(ShipEdgesTest.AT_SEA + "tape 'which'; rule(1) = 1; tape 'sum'; rule(1) = -100; told(0, 0, 1) = 2;"
                + "tape 'which = 1 )'; rule(1) = -110; told(0, 0, 1) = 2");
    }

    private static void ruleAndTape() {
        due.says(21, "THE TAPE is empty then, either way.");
        due.run(SHELF + "tape 'sum'; count(4) = 3; rule(0) = 1; count(4) = 0; rule(0) = -100");
        due.run(SHELF + "tape 'sum x'; count(4) = 5; rule(0) = -104; count(4) = 0; tape 'sum'; rule(0) = 1;"
                + "trial(0, 0, 5) = 11");
        due.run(SHELF + "tape '1 + sum'; rule(1) = -104; count(4) = 0; tape '2'; rule(0) = 1; trial(0, 0, 5) = 2");
        due.run(SHELF + "tape 'days'; rule(1) = 1; count(4) = 0; rule(1) = -100; count(4) = 0");
        due.run(SHELF + "tape '" + "(".repeat(120) + "'; count(4) = 120; rule(0) = -115; count(4) = 0; feed(4, 0) = 4");
    }

    /** Rows are used again, so that nothing of an earlier text may be left in them, be it a rule or faulty. */
    private static void longRulesOneAfterAnother() {
        due.says(21, "THE TAPE becomes the RULE of TRIALS (which 0), DROP (1): 1;");
        StringBuilder trials = new StringBuilder(SHELF);
        for (int i = 1; i <= 5; i++) {
            trials.append("tape '" + "1+".repeat(59) + i + "'; rule(0) = 1; trial(0, 0, 5) = " + (59 + i) + ";");
        }
        due.run(trials + "tape 'sum'; rule(0) = 1; trial(0, 0, 5) = 11");
        StringBuilder drops = new StringBuilder(ShipEdgesTest.AT_SEA);
        for (int i = 0; i < 5; i++) {
            drops.append("tape '" + "1*".repeat(54) + "(which=" + i % 3 + ")'; rule(1) = 1; told(0, 0, 1) = " + i % 3 + ";");
        }
        due.run(drops.toString());
        StringBuilder faulty = new StringBuilder(SHELF);
        for (int i = 1; i <= 3; i++) {
            faulty.append("tape '" + "1+".repeat(60) + "'; rule(" + i % 2 + ") = -220;");
            faulty.append("tape '" + "1-".repeat(59) + i + "'; rule(0) = 1; trial(0, 0, 5) = " + (-57 - i) + ";");
        }
        due.run(faulty.toString());
    }

    private static void fault(String text, int place) {
        due.run("tape '" + text + "'; rule(0) = " + (-100 - place) + "; count(4) = 0");
    }

    private static void good(String text) {
        due.run("tape '" + text + "'; rule(0) = 1; count(4) = 0");
    }

    private static void value(String text, int value) {
        due.run(SHELF + "tape '" + text + "'; rule(0) = 1; trial(0, 0, 5) = " + value);
    }

    private static void faults() {
        due.says(0, "the first byte of the first WORD, NUMBER (as wholes), sign or other byte with which no TEXT goes on");
        fault("sum most", 4);
        fault("sum 123", 4);
        fault("sum (", 4);
        fault("sum )", 4);
        fault("sum !", 4);
        fault("1 + ordrift", 4);
        fault("1 + 1234567", 4);
        fault("12 345", 3);
        fault("1 + * 2 ) !", 4);
        fault("! ! !", 0);
        fault(")", 0);
        fault("or", 0);
        fault("1 or or", 5);
        fault("not or", 4);
        fault("1 not", 2);
        fault("abs", 3);
        fault("abs < 1", 4);
        fault("(1 + 2", 6);
        fault("(1 + 2(", 6);
        fault("()", 1);
        fault("(1) 2", 4);
        fault("1 + \u00ff", 4);
        fault("1 + \u0080", 4);
        fault("1\u0000", 1);
        fault("1\t", 1);
        fault("A", 0);
        fault("sUm", 0);
        fault("\u0001sum", 0);
        due.says(0, "the length, if it ends too early.");
        fault("", 0);
        fault(" ", 1);
        fault("    ", 4);
        fault("1 +", 3);
        fault("1 + ", 4);
        fault("not", 3);
        fault("not  ", 5);
        fault("abs ", 4);
        fault("-", 1);
        fault("(", 1);
        fault("((1)", 4);
        fault("1 < ", 4);
        fault("1 and", 5);
        fault("1 or not", 8);
        fault("1 * (2 - ", 9);
    }

    private static void numbersAndWords() {
        due.says(0, "O = a NUMBER (1 to 5 digits), a NAME of the rule for which it is read, ( E ), abs O, or - O.");
        value("0", 0);
        value("9", 9);
        value("99999", 99999);
        value("00000", 0);
        value("00012", 12);
        fault("100000", 0);
        fault("000000", 0);
        fault("1+ 0000001", 3);
        fault("12345 6", 6);
        for (String name : "days least most span gaps jump drift sum warm".split(" ")) {
            due.run("tape '" + name + "'; rule(0) = 1");
            due.run("tape '" + name + "'; rule(1) = " + (name.equals("days") ? 1 : -100));
        }
        for (String name : "off doubt days which".split(" ")) {
            due.run("tape '" + name + "'; rule(1) = 1");
            due.run("tape '" + name + "'; rule(0) = " + (name.equals("days") ? 1 : -100));
        }
        due.says(0, "a WORD goes on as far as letters a .. z, a NUMBER as digits.");
        fault("dayss", 0);
        fault("day", 0);
        fault("sumsum", 0);
        fault("notsum", 0);
        fault("abssum", 0);
        fault("sum orsum", 4);
        fault("1 andnot 1", 2);
        fault("days5", 4);
        fault("5days", 1);
        good("5or 5");
        good("not5");
        good("abs5");
        good("1and not(2)or abs(3)");
        fault("a", 0);
        fault("z", 0);
        fault("sum`", 3);
        fault("sum{", 3);
        fault("1/", 2);
        fault("1:", 1);
        fault("sumz", 0);
        fault("suma", 0);
        fault("az", 0);
    }

    private static void blanks() {
        due.says(0, "Blanks (32) part WORDS and NUMBERS, and may stand elsewhere;");
        value("  1   +2 ", 3);
        value("1+2", 3);
        value(" ( 1 ) ", 1);
        value("- 1", -1);
        value("-  - 1", 1);
        value("abs   - 1", 1);
        value("1 2 3".replace(" ", " + "), 6);
        fault("1 2", 2);
        fault("da ys", 0);
        fault("s um", 0);
        fault("sum\u001f", 3);
        fault("sum!", 3);
        fault("sum\u000b", 3);
        fault("sum\u00a0", 3);
        value("not 0 and not 0", 1);
    }

    private static void oneComparisonAlone() {
        due.says(0, "C = S [ < S, = S, or > S ].");
        value("1 < 2", 1);
        value("2 < 2", 0);
        value("3 < 2", 0);
        value("1 = 2", 0);
        value("2 = 2", 1);
        value("1 > 2", 0);
        value("2 > 2", 0);
        value("3 > 2", 1);
        fault("1 < 2 < 3", 6);
        fault("1 = 1 = 1", 6);
        fault("1 > 2 < 3", 6);
        fault("1 <= 2", 3);
        fault("1 => 2", 3);
        fault("1 == 2", 3);
        value("(1 < 2) = 1", 1);
        fault("1 < not 2", 4);
        fault("1 + not 2", 4);
        fault("abs not 2", 4);
        fault("- not 2", 2);
        value("abs (not 0)", 1);
        due.says(0, "S = P { + P, - P }. P = O { * O, / O }.");
        value("7", 7);
        value("10 - 4 + 3 - 2", 7);
        value("2 * 3 * 4 / 5 * 6", 24);
        value("2 + 3 * 4 - 8 / 2", 10);
        value("1 - 2 * 3 < 4 - 5 / 6", 1);
        fault("1 + + 2", 4);
        fault("1 * / 2", 4);
        value("1 + - 2", -1);
        value("6 / - 2", -3);
        fault("+ 1", 0);
        fault("* 1", 0);
        due.says(0, "N = not N, or C.");
        value("not not 5", 1);
        value("not 1 = 2", 1);
        value("not 0 + 1", 0);
        value("(not 0) + 1", 2);
        due.says(0, "E = A { or A }. A = N { and N }.");
        value("1 or 1 and 0", 1);
        value("0 and 1 or 1", 1);
        value("0 and (1 or 1)", 0);
        value("not 1 or 1", 1);
        value("not (1 or 1)", 0);
        value("0 or 0 or 0 or 7", 1);
        value("1 and 2 and 3 and 0", 0);
    }

    private static void open() {
        due.says(0, "At most 15 of not, (, abs, - ahead of an O, are open within one another.");
        value("(".repeat(15) + "1" + ")".repeat(15), 1);
        value("-".repeat(15) + "1", -1);
        value("not ".repeat(15) + "1", 0);
        value("abs ".repeat(15) + "1", 1);
        value("not (abs -(".repeat(3) + "1" + ")".repeat(6), 0);
        due.says(0, "also of the 16th that would be open;");
        fault("(".repeat(16) + "1" + ")".repeat(16), 15);
        fault("-".repeat(16) + "1", 15);
        fault("not ".repeat(16) + "1", 60);
        fault("abs ".repeat(16) + "1", 60);
        fault("not (abs -(".repeat(3) + "(1" + ")".repeat(7), 33);
        fault("not (abs -(".repeat(3) + "-1" + ")".repeat(6), 33);
        fault("not (abs -(".repeat(3) + "abs 1" + ")".repeat(6), 33);
        fault("not (abs -(".repeat(3) + "not 1" + ")".repeat(6), 33);
        fault("not (abs -(".repeat(3) + "2 * -1" + ")".repeat(6), 37);
        fault("(".repeat(40), 15);
        fault("(".repeat(15) + "1 - -1", 19);
        fault("(".repeat(15) + "1 + (", 19);
        due.says(0, "are open within one another.");
        value("(1)+".repeat(20) + "1", 21);
        value("-1*".repeat(20) + "1", 1);
        value("abs 1+".repeat(16) + "1", 17);
        value("not 0 and ".repeat(11) + "1", 1);
        value("(".repeat(15) + "1 - 1" + ")".repeat(15) + "-(-(-(-1)))", 1);
        value("(".repeat(14) + "-1*-1*-1" + ")".repeat(14), -1);
        value("(".repeat(14) + "not 1 or not 0" + ")".repeat(14), 1);
    }

    private static void wrapping() {
        due.says(0, "Ints that wrap; / towards 0, by 0 it gives 0;");
        value("65536 * 32768", Integer.MIN_VALUE);
        value("65536 * 32768 - 1", Integer.MAX_VALUE);
        value("65536 * 32768 - 1 + 1", Integer.MIN_VALUE);
        value("65536 * 65536", 0);
        value("99999 * 99999", 1409865409);
        value("- (65536 * 32768)", Integer.MIN_VALUE);
        value("abs (65536 * 32768)", Integer.MIN_VALUE);
        value("65536 * 32768 / (0 - 1)", Integer.MIN_VALUE);
        value("65536 * 32768 / -1 = 65536 * 32768", 1);
        value("7 / 2", 3);
        value("-7 / 2", -3);
        value("7 / -2", -3);
        value("-7 / -2", 3);
        value("1 / 2", 0);
        value("-1 / 2", 0);
        value("7 / 0", 0);
        value("-7 / 0", 0);
        value("0 / 0", 0);
        value("1 + 7 / (2 - 2) * 3", 1);
        value("65536 * 32768 / 0", 0);
        value("100 / 10 / 5", 2);
        value("100 / 7 * 7", 98);
        value("10 - 4 - 3", 3);
        value("2 - 3 * 4", -10);
        value("- 2 * 3", -6);
        value("abs 2 - 5", -3);
        value("abs (2 - 5)", 3);
        value("abs -3 * -2", -6);
    }

    private static void truth() {
        due.says(0, "< = > and or not give 1, 0 (what is not 0 is true; both sides are worked out).");
        value("5 or 0", 1);
        value("0 or 5", 1);
        value("-5 or 0", 1);
        value("0 or 0", 0);
        value("5 and 7", 1);
        value("5 and -7", 1);
        value("5 and 0", 0);
        value("0 and 5", 0);
        value("not 5", 0);
        value("not -1", 0);
        value("not 0", 1);
        value("1 or 1 / 0", 1);
        value("0 and 1 / 0", 0);
        value("(1 < 2) + (2 = 2) + (3 > 2) + (1 or 0) + (1 and 1)", 5);
        value("65536 * 32768 < 0", 1);
        value("65536 * 32768 - 1 > 0", 1);
    }

    private static void names() {
        due.says(0, "days: how many RATES; least, most: of them; span: most - least; gaps: q - p - days;");
        value("days", 4);
        value("least", -4);
        value("most", 10);
        value("span", 14);
        value("gaps", 1);
        due.run(SHELF + "tape 'gaps'; rule(0); trial(0, 0, 60) = 56; trial(0, 4, 5) = 0; trial(0, 3, 6) = 1;"
                + "trial(0, 4, 64) = 59; trial(0, 2, 4) = 1");
        due.run(SHELF + "tape 'least*100+most'; rule(0); trial(0, 0, 1) = -404; trial(0, 3, 5) = 210;"
                + "trial(0, 4, 5) = 202; trial(0, 1, 2) = 303; trial(0, 1, 5) = 210; trial(0, 0, 2) = -397");
        due.says(0, "jump: the greatest difference (without its sign) of two RATES of which none is between;");
        due.run(SHELF + "tape 'jump'; rule(0); trial(0, 0, 5) = 8; trial(0, 0, 2) = 7; trial(0, 0, 1) = 0;"
                + "trial(0, 1, 4) = 7; trial(0, 3, 5) = 8; trial(0, 0, 4) = 7");
        due.says(0, "drift: the last one less the first one; sum: all together;");
        due.run(SHELF + "tape 'drift'; rule(0); trial(0, 0, 5) = 6; trial(0, 0, 1) = 0; trial(0, 3, 5) = -8;"
                + "trial(0, 0, 4) = 14; trial(0, 0, 60) = 6");
        due.run(SHELF + "tape 'sum'; rule(0); trial(0, 0, 5) = 11; trial(0, 0, 1) = -4; trial(0, 0, 3) = -1");
        due.says(0, "warm: the greatest WARMTH less the least, of days with RATES and WARMTH (0 without).");
        due.run(SHELF + "tape 'warm'; rule(0); trial(0, 0, 5) = 0; warmth(0, -50); trial(0, 0, 5) = 0; warmth(2, 9);"
                + "trial(0, 0, 5) = 0; warmth(4, 50); trial(0, 0, 5) = 100; warmth(0, 20); trial(0, 0, 5) = 30;"
                + "warmth(5, -50); trial(0, 0, 6) = 30; trial(0, 0, 4) = 0; warmth(4, -50); trial(0, 0, 5) = 70;"
                + "warmth(0, -100); trial(0, 0, 5) = 0");
        due.run(SHELF + "tape 'warm'; rule(0); warmth(0, -1); warmth(1, -7); warmth(3, -3); trial(0, 0, 5) = 6;"
                + "warmth(1, 0); trial(0, 0, 5) = 3");
    }

    private static void trial() {
        due.says(22, "TRIAL. VOID: BAD, MISSING, KIND, no RULE, no RATE.");
        due.run(SHELF + "trial(0, 0, 5) = VOID; tape 'days'; rule(0) = 1; trial(0, 0, 5) = 4; trial(0, 2, 3) = VOID;"
                + "trial(0, 5, 9) = VOID; trial(1, 0, 5) = VOID; trial(2, 0, 5) = VOID; trial(3, 0, 5) = VOID;"
                + "trial(-1, 0, 5) = VOID; trial(16, 0, 5) = VOID; trial(0, 0, 0) = VOID; trial(0, 5, 0) = VOID;"
                + "trial(0, 0, 60) = 4; trial(0, 0, 61) = VOID; trial(0, -1, 5) = VOID; trial(0, 399, 400) = VOID;"
                + "trial(0, MIN, MAX) = VOID; trial(0, MAX, MIN) = VOID; trial(0, 0, 1) = 1");
        due.says(0, "what the RULE gives for its RATES (with WARMTH or not).");
        due.run(SHELF + "tape 'days'; rule(0); warmth(0, 5); trial(0, 0, 5) = 4; warmth(0, -100); trial(0, 0, 5) = 4");
        due.says(0, "Without any RATE there is no TRIAL.");
        due.run(SHELF + "tape '7'; rule(0); trial(0, 0, 5) = 7; trial(0, 2, 3) = VOID; trial(1, 0, 5) = VOID;"
                + "order(1, 0, 5) = NOT; order(0, 2, 3) = NOT");
    }

    /** Watches at 0, 1, 3, a box at 15, a glass at 2; rates of day 0: 5, 5, 3, 9; at 4 a watch without. */
    private static final String FOUR = "put(0, 0, 0); put(1, 0, 0); put(2, 2, 1); put(3, 0, 0); put(4, 0, 0);"
            + "put(15, 1, 0); days(8); compare(0, 0, 0, 0); compare(1, 0, 0, 0); compare(3, 0, 0, 0);"
            + "compare(15, 0, 0, 0); compare(0, 1, 5, 0); compare(1, 1, 5, 0); compare(3, 1, 3, 0);"
            + "compare(15, 1, 9, 0);";

    private static void order() {
        due.says(23, "PLACE in the ORDER (1 the first). BAD, MISSING, KIND; NOT: it has no TRIAL.");
        due.run(FOUR + "order(0, 0, 8) = NOT; tape 'sum'; rule(0); order(3, 0, 8) = 1; order(4, 0, 8) = NOT;"
                + "order(0, 1, 8) = NOT; order(2, 0, 8) = KIND; order(5, 0, 8) = MISSING; order(-1, 0, 8) = BAD;"
                + "order(16, 0, 8) = BAD; order(0, 0, 0) = BAD; order(0, 1, 0) = BAD; order(0, 0, 60) = 2;"
                + "order(0, 0, 61) = BAD; order(0, -1, 8) = BAD; order(0, 340, 400) = BAD; order(0, 339, 399) = NOT;"
                + "order(2, 0, 0) = BAD; order(5, 0, 61) = BAD; order(0, MIN, MAX) = BAD; order(0, MAX, MIN) = BAD");
        due.says(0, "all WATCHES on THE SHELF with a TRIAL by the same days: PLACE of one is 1 and how many have less.");
        due.run(FOUR + "tape 'sum'; rule(0); order(0, 0, 8) = 2; order(1, 0, 8) = 2; order(3, 0, 8) = 1;"
                + "order(15, 0, 8) = 4; tape '0 - sum'; rule(0); order(15, 0, 8) = 1; order(0, 0, 8) = 2;"
                + "order(3, 0, 8) = 4; tape '1'; rule(0); order(3, 0, 8) = 1; order(15, 0, 8) = 1");
        due.run(FOUR + "tape 'sum'; rule(0); lend(3, 4); order(0, 0, 8) = 2; days(1); order(0, 0, 8) = 2; home(3);"
                + "take(3); order(0, 0, 8) = 1; order(15, 0, 8) = 3; order(3, 0, 8) = MISSING");
        due.run(FOUR + "tape 'gaps'; rule(0); compare(0, 2, 9, 0); order(0, 0, 8) = 1; order(1, 0, 8) = 2;"
                + "order(15, 0, 8) = 2; order(0, 1, 8) = 1; order(0, 0, 1) = 1; order(1, 0, 1) = 1; compare(1, 2, 9, 0);"
                + "compare(1, 3, 9, 0); order(1, 1, 8) = 1; order(0, 1, 8) = 2");
    }
}

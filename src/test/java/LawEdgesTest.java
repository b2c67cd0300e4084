/** The sentences of the document that name a boundary case, of promises 16 to 19. */
public final class LawEdgesTest {
    private static final Due due = new Due("LawEdgesTest");

    /** On day 4: a watch at 0, a box at 1 (warmth 9), each with rates 5, 6, 7, 8 of days 0 to 3; a glass at 2. */
    private static final String RATES = "put(0, 0, 0); put(1, 1, 9); put(2, 2, 7); days(4);" + errors(0, 5, 6, 7, 8)
            + errors(1, 5, 6, 7, 8);

    public static void main(String[] args) {
        law();
        asKnownByNow();
        stretches();
        terms();
        foretold();
        foretoldBeyond();
        jump();
        due.end();
    }

    /** Comparisons of a watch from day 0 on by these rates. */
    private static String errors(int place, int... rates) {
        StringBuilder calls = new StringBuilder("compare(" + place + ", 0, 0, 0);");
        int error = 0;
        for (int day = 0; day < rates.length; day++) {
            error += rates[day];
            calls.append("compare(" + place + ", " + (day + 1) + ", " + error + ", 0);");
        }
        return calls.toString();
    }

    private static void law() {
        due.says(16, "How many RATES a LAW has (those with WARMTH).");
        due.run(RATES + "law(0, 0, 4) = 0; law(1, 0, 4) = 4; warmth(0, 3); law(0, 0, 4) = 1; warmth(4, 3);"
                + "law(0, 0, 4) = 1; law(0, 0, 60) = 1; warmth(3, 3); law(0, 0, 60) = 2; late(0, 4); law(0, 0, 60) = 1;"
                + "law(1, 0, 60) = 4; warmth(0, -100); law(0, 0, 60) = 0");
        due.says(0, "those RATES of days d, p at least, q - 1 at most, q - p at most 60, that have a WARMTH");
        due.run(RATES + "law(1, 1, 3) = 2; law(1, 0, 1) = 1; law(1, 3, 4) = 1; law(1, 4, 5) = 0; law(1, 3, 60) = 1;"
                + "foretold(1, 1, 2, 0, 0) = 6000; foretold(1, 3, 4, 0, 0) = 8000; foretold(1, 4, 5, 0, 0) = VOID");
        StringBuilder many = new StringBuilder("put(0, 1, 0); days(100);");
        for (int day = 0; day <= 100; day++) {
            many.append("compare(0, " + day + ", " + day + ", 0);");
        }
        due.run(many + "law(0, 0, 60) = 60; law(0, 40, 100) = 60; law(0, 41, 101) = 59; law(0, 99, 100) = 1;"
                + "law(0, 0, 61) = BAD; foretold(0, 0, 60, 50, 399) = 1000; jump(0, 0, 60, 0) = NOT");
    }

    private static void asKnownByNow() {
        due.says(0, "All AS KNOWN by now.");
        due.run("put(0, 1, 0); days(2); compare(0, 0, 0, 0); compare(0, 1, 1000, 2); compare(0, 2, 1500, 0);"
                + "law(0, 0, 2) = 1; foretold(0, 0, 2, 0, 0) = 500000; off(2, 1, 1, 1); law(0, 0, 2) = 2;"
                + "terms(0, 0, 2) = 4; foretold(0, 0, 2, 0, 0) = 999000; foretold(0, 0, 2, 0, 1) = 501000;"
                + "jump(0, 0, 2, 497) = 0; jump(0, 0, 2, 498) = NOT; off(2, 1, 1, 499); law(0, 0, 2) = 1;"
                + "foretold(0, 0, 2, 0, 0) = 500000; tape 'sum'; rule(0); trial(0, 0, 2) = 500; order(0, 0, 2) = 1");
    }

    private static void stretches() {
        due.says(16, "BAD (q - p is not 1 .. 60), MISSING, KIND.");
        String[] calls = {"law(%s)", "terms(%s)", "foretold(%s, 0, 0)", "jump(%s, 0)"};
        for (int i = 0; i < calls.length; i++) {
            String bad = i == 2 ? "VOID" : "BAD";
            String missing = i == 2 ? "VOID" : "MISSING";
            String kind = i == 2 ? "VOID" : "KIND";
            StringBuilder script = new StringBuilder(RATES);
            String[] wrong = {"0, 0, 0", "0, 3, 3", "0, 4, 3", "0, 0, 61", "0, 338, 399", "0, 0, 399", "0, -1, 0",
                "0, -1, 4", "0, 399, 400", "0, 340, 400", "0, 400, 401", "0, MIN, MAX", "0, MAX, MIN", "0, 0, MAX",
                "0, MIN, 0", "0, MIN, -2147483647", "-1, 0, 4", "16, 0, 4", "MIN, 0, 4", "MAX, 0, 4", "3, 0, 0",
                "3, 0, 61", "2, 0, 0", "2, 0, 61"};
            for (String one : wrong) {
                script.append(calls[i].formatted(one) + " = " + bad + ";");
            }
            script.append(calls[i].formatted("3, 0, 4") + " = " + missing + ";");
            script.append(calls[i].formatted("15, 0, 4") + " = " + missing + ";");
            script.append(calls[i].formatted("2, 0, 4") + " = " + kind + ";");
            due.run(script.toString());
        }
        due.run(RATES + "law(1, 339, 399) = 0; law(1, 398, 399) = 0; terms(1, 339, 399) = NOT; jump(1, 339, 399, 0) = NOT;"
                + "law(1, 0, 60) = 4; law(1, 3, 63) = 1; terms(1, 0, 60) = 4; jump(1, 0, 60, 0) = 3");
    }

    private static void terms() {
        due.says(17, "Its TERMS: 3 (all), 2 (1 and WARMTH), 4 (1 and AGE), 1. BAD, MISSING, KIND; NOT: no RATE.");
        due.run(RATES + "terms(0, 0, 4) = NOT; warmth(0, 0); terms(0, 0, 4) = 1; late(0, 0); terms(0, 0, 4) = NOT;"
                + "terms(1, 4, 9) = NOT");
        due.says(0, "TERMS: 1, WARMTH, AGE, if by these it is one alone;");
        due.run(RATES + "warmth(0, 1); warmth(1, 2); warmth(2, 4); terms(0, 0, 4) = 3; terms(0, 0, 2) = 2;"
                + "warmth(2, 3); terms(0, 0, 4) = 2; warmth(3, 4); terms(0, 0, 4) = 2; warmth(3, 5); terms(0, 0, 4) = 3");
        due.says(0, "else 1 and WARMTH, if so;");
        due.run(RATES + "warmth(0, -50); warmth(1, 50); terms(0, 0, 4) = 2; warmth(1, -49); terms(0, 0, 4) = 2");
        due.run(RATES + "repair(0, 2); warmth(0, 1); warmth(2, 2); terms(0, 0, 4) = 2");
        due.says(0, "else 1 and AGE, if so; else 1.");
        due.run(RATES + "warmth(0, 7); warmth(1, 7); terms(0, 0, 4) = 4; warmth(2, 7); warmth(3, 7); terms(0, 0, 4) = 4");
        due.run(RATES + "repair(0, 2); warmth(0, 7); warmth(2, 7); terms(0, 0, 4) = 1; foretold(0, 0, 4, 50, 399) = 6000");
        due.run(RATES + "warmth(2, 7); terms(0, 0, 4) = 1; foretold(0, 0, 4, -50, 399) = 7000");
        due.run(RATES + "terms(1, 0, 4) = 4; terms(1, 0, 2) = 4; terms(1, 0, 1) = 1");
    }

    private static void foretold() {
        due.says(18, "FORETOLD. VOID: BAD, MISSING, KIND, no RATE;");
        due.run(RATES + "foretold(0, 0, 4, 0, 0) = VOID; warmth(1, 5); foretold(0, 0, 4, 0, 0) = 6000;"
                + "foretold(0, 0, 4, 50, 0) = 6000; foretold(0, 0, 4, -50, 399) = 6000; foretold(0, 0, 4, 51, 0) = VOID;"
                + "foretold(0, 0, 4, -51, 0) = VOID; foretold(0, 0, 4, -100, 0) = VOID; foretold(0, 0, 4, MIN, 0) = VOID;"
                + "foretold(0, 0, 4, MAX, 0) = VOID; foretold(0, 0, 4, 0, -1) = VOID; foretold(0, 0, 4, 0, 400) = VOID;"
                + "foretold(0, 0, 4, 0, MIN) = VOID; foretold(0, 0, 4, 0, MAX) = VOID; foretold(0, 2, 4, 0, 0) = VOID");
        due.says(0, "1000 times what the LAW gives, rounded down.");
        // rates -1, 0, 0 of AGE 0 alone: the mean is -1/3
        due.run("put(0, 1, 0); days(6);" + errors(0, -1, 0, 0, 0, 0, 0) + "repair(0, 2); repair(0, 4); late(0, 6);"
                + "law(0, 0, 6) = 3; terms(0, 0, 6) = 1; foretold(0, 0, 6, 0, 0) = -334");
        due.run("put(0, 1, 0); days(6);" + errors(0, 1, 0, 0, 0, 0, 0) + "repair(0, 2); repair(0, 4); late(0, 6);"
                + "foretold(0, 0, 6, 0, 0) = 333");
        due.run("put(0, 1, 0); days(6);" + errors(0, -2, 0, 0, 0, -1, 0) + "repair(0, 2); repair(0, 4); late(0, 6);"
                + "foretold(0, 0, 6, 0, 0) = -1000");
        // by AGE 0, 1, 2: 1/3 + 3/2 - 3/2 AGE
        due.run("put(0, 1, 0); days(3);" + errors(0, 3, -2, 0) + "terms(0, 0, 3) = 4; foretold(0, 0, 3, 0, 0) = 1833;"
                + "foretold(0, 0, 3, 0, 1) = 333; foretold(0, 0, 3, 0, 2) = -1167; foretold(0, 0, 3, 0, 399) = -596667;"
                + "foretold(0, 0, 3, 50, 1) = 333; foretold(0, 0, 3, -50, 1) = 333");
        due.run(RATES + "warmth(0, 2); warmth(1, 3); terms(0, 0, 4) = 2; foretold(0, 0, 4, 2, 0) = 5000;"
                + "foretold(0, 0, 4, 2, 399) = 5000; foretold(0, 0, 4, 50, 7) = 53000; foretold(0, 0, 4, -50, 7) = -47000");
    }

    /** Some rates alone, nearly in line, with a repair on day 359. */
    private static String few(int[] days, int[] warmths, int[] rates) {
        StringBuilder calls = new StringBuilder("put(0, 0, 0); days(100); days(100); days(100); days(99); repair(0, 359);");
        for (int i = 0; i < days.length; i++) {
            calls.append("compare(0, " + days[i] + ", 0, 0); compare(0, " + (days[i] + 1) + ", " + rates[i] + ", 0);");
            calls.append("warmth(" + days[i] + ", " + warmths[i] + ");");
        }
        return calls.toString();
    }

    private static void foretoldBeyond() {
        due.says(18, "or beyond 2000000000 (without its sign).");
        due.run(few(new int[] {342, 366, 394}, new int[] {-43, -31, -32}, new int[] {-271, 658, -624})
                + "law(0, 339, 399) = 3; foretold(0, 339, 399, -50, 399) = 2000000000;"
                + "foretold(0, 339, 399, -50, 398) = VOID");
        // 2000000001 and some, rounded down
        due.run(few(new int[] {339, 353, 360, 390}, new int[] {47, 47, 48, 48}, new int[] {735, -613, 849, -804})
                + "law(0, 339, 399) = 4; foretold(0, 339, 399, -50, 399) = VOID");
        // 2000001000, and 1956965000 one degree away
        due.run(few(new int[] {352, 368, 387}, new int[] {-22, -4, -5}, new int[] {-175, 14, 129})
                + "foretold(0, 339, 399, -50, 0) = VOID; foretold(0, 339, 399, -49, 0) = 1956965000");
        // -1999999998 and some, rounded down
        due.run(few(new int[] {353, 362, 384, 388}, new int[] {39, 38, 38, 38}, new int[] {302, 869, -525, -906})
                + "foretold(0, 339, 399, -50, 0) = -1999999999; foretold(0, 339, 399, -50, 1) = VOID");
        due.run(few(new int[] {353, 361, 393}, new int[] {-8, 3, 2}, new int[] {823, 727, 132})
                + "foretold(0, 339, 399, 0, 399) = -1999999000; foretold(0, 339, 399, 1, 399) = VOID");
    }

    private static void jump() {
        due.says(19, "JUMP: the day, if it is more than bound (0 .. 2000) off.");
        due.run(RATES + "jump(0, 0, 4, -1) = BAD; jump(0, 0, 4, 2001) = BAD; jump(0, 0, 4, MIN) = BAD;"
                + "jump(0, 0, 4, MAX) = BAD; jump(0, 0, 4, 2000) = NOT; jump(0, 0, 4, 2) = NOT; jump(0, 0, 4, 1) = 3;"
                + "jump(0, 0, 4, 0) = 3; jump(3, 0, 4, -1) = BAD; jump(2, 0, 4, 2001) = BAD");
        due.run("put(0, 0, 0); days(2);" + errors(0, 999, -999) + "jump(0, 0, 2, 1997) = 0; jump(0, 0, 2, 1998) = NOT");
        due.says(19, "BAD, MISSING, KIND; NOT: none.");
        due.run(RATES + "jump(0, 4, 9, 0) = NOT; jump(0, 1, 2, 0) = NOT; jump(3, 0, 4, 0) = MISSING;"
                + "jump(2, 0, 4, 0) = KIND; jump(16, 0, 4, 0) = BAD; late(1, 1); late(1, 3); jump(1, 0, 4, 0) = NOT");
        due.says(0, "of all RATES of these days the one farthest off from the MIDDLE one");
        due.run("put(0, 0, 0); days(4);" + errors(0, 5, 5, 9, 5) + "jump(0, 0, 4, 0) = 2; jump(0, 0, 2, 0) = NOT;"
                + "law(0, 0, 4) = 0; warmth(0, 1); warmth(1, 1); jump(0, 0, 4, 3) = 2; jump(0, 0, 4, 4) = NOT");
        due.says(0, "(the RATES in order, place (n - 1) / 2 of 0 ..), the first of several: its day;");
        due.run("put(0, 0, 0); days(2);" + errors(0, 4, 6) + "jump(0, 0, 2, 0) = 1; jump(0, 0, 2, 1) = 1;"
                + "jump(0, 0, 2, 2) = NOT");
        due.run("put(0, 0, 0); days(2);" + errors(0, 6, 4) + "jump(0, 0, 2, 0) = 0");
        due.run("put(0, 0, 0); days(4);" + errors(0, 9, 1, 3, 6) + "jump(0, 0, 4, 5) = 0; jump(0, 0, 4, 6) = NOT;"
                + "jump(0, 1, 4, 2) = 3");
        due.run("put(0, 0, 0); days(3);" + errors(0, 5, 8, 2) + "jump(0, 0, 3, 2) = 1; jump(0, 0, 3, 3) = NOT");
        due.run("put(0, 0, 0); days(3);" + errors(0, 2, 5, 8) + "jump(0, 0, 3, 0) = 0; jump(0, 1, 3, 0) = 2");
        due.run("put(0, 0, 0); days(3);" + errors(0, -5, -8, -2) + "jump(0, 0, 3, 2) = 1; jump(0, 0, 3, 3) = NOT");
    }
}

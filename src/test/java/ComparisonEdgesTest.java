/** The sentences of the document that name a boundary case, of promises 8 to 15. */
public final class ComparisonEdgesTest {
    private static final Due due = new Due("ComparisonEdgesTest");

    /** A watch at 0, a box at 1, a glass at 2, nothing at 3; on day 5. */
    private static final String SHELF = "put(0, 0, 0); put(1, 1, 9); put(2, 2, 7); days(5);";

    public static void main(String[] args) {
        compare();
        compareAndHolders();
        error();
        asKnown();
        rate();
        rateLeftOut();
        repair();
        late();
        age();
        off();
        changed();
        due.end();
    }

    private static void compare() {
        due.says(8, "A COMPARISON of a WATCH on a day (TODAY or ahead): 1.");
        due.run(SHELF + "compare(0, 5, 1, 0) = 1; compare(0, 0, 2, 0) = 1; compare(1, 5, 3, 0) = 1; error(0, 5, -1) = 1;"
                + "error(0, 0, -1) = 2; error(1, 5, -1) = 3; error(1, 0, -1) = VOID");
        due.run(SHELF + "compare(0, 6, 1, 0) = BAD; compare(0, -1, 1, 0) = BAD; compare(0, 400, 1, 0) = BAD;"
                + "compare(0, MIN, 1, 0) = BAD; compare(0, MAX, 1, 0) = BAD; days(1); compare(0, 6, 1, 0) = 1");
        due.run("put(0, 0, 0); compare(0, 0, 1, 0) = 1; compare(0, 1, 1, 0) = BAD");
        due.run("put(0, 0, 0); days(100); days(100); days(100); days(99); compare(0, 399, 1, 0) = 1;"
                + "compare(0, 400, 1, 0) = BAD; error(0, 399, -1) = 1");
        due.says(0, "its ERROR (-100000 .. 100000) as told, and a SOURCE (0 the OBSERVATORY, 1 .. 5 a SIGNAL)");
        due.run(SHELF + "compare(0, 1, 100000, 0) = 1; error(0, 1, -1) = 100000; compare(0, 2, -100000, 0) = 1;"
                + "error(0, 2, -1) = -100000; compare(0, 3, 100001, 0) = BAD; compare(0, 3, -100001, 0) = BAD;"
                + "compare(0, 3, MAX, 0) = BAD; compare(0, 3, MIN, 0) = BAD; error(0, 3, -1) = VOID;"
                + "compare(0, 3, 0, 0) = 1; error(0, 3, -1) = 0");
        due.run(SHELF + "compare(0, 1, 1, -1) = BAD; compare(0, 1, 1, 6) = BAD; compare(0, 1, 1, MIN) = BAD;"
                + "compare(0, 1, 1, MAX) = BAD; error(0, 1, -1) = VOID; compare(0, 1, 1, 5) = 1;"
                + "compare(0, 2, 1, 1) = 1; compare(0, 3, 1, 0) = 1; error(0, 1, -1) = 1");
        due.says(0, "COMPARISONS, one a day at most");
        due.run(SHELF + "compare(0, 3, 10, 1) = 1; compare(0, 3, 20, 0) = NOT; compare(0, 3, 10, 1) = NOT;"
                + "error(0, 3, -1) = 10; off(1, 3, 3, 4); error(0, 3, -1) = 6; compare(1, 3, 20, 0) = 1;"
                + "compare(0, 3, 10, 0) = NOT; compare(0, 3, 6, 2) = NOT; error(0, 3, -1) = 6");
        due.says(8, "BAD, MISSING, KIND; NOT: it has one of that day; or that day it was not the office's.");
        due.run(SHELF + "compare(-1, 0, 0, 0) = BAD; compare(16, 0, 0, 0) = BAD; compare(3, 0, 0, 0) = MISSING;"
                + "compare(15, 0, 0, 0) = MISSING; compare(2, 0, 0, 0) = KIND");
        due.run(SHELF + "compare(3, 6, 0, 0) = BAD; compare(3, 0, 100001, 0) = BAD; compare(3, 0, 0, 6) = BAD;"
                + "compare(2, 6, 0, 0) = BAD; compare(2, 0, -100001, 0) = BAD; compare(2, 0, 0, -1) = BAD;"
                + "compare(0, 0, 0, 0) = 1; compare(0, 0, 100001, 0) = BAD; compare(0, 0, 0, 6) = BAD");
        due.run(SHELF + "lend(0, 4); compare(0, 5, 100001, 0) = BAD; compare(0, 5, 0, 0) = NOT; error(0, 5, -1) = VOID");
    }

    private static void compareAndHolders() {
        due.says(8, "or that day it was not the office's.");
        due.run(SHELF + "lend(0, 4); days(3); home(0); days(1); compare(0, 4, 1, 0) = 1; compare(0, 5, 1, 0) = NOT;"
                + "compare(0, 6, 1, 0) = NOT; compare(0, 7, 1, 0) = NOT; compare(0, 8, 1, 0) = 1;"
                + "compare(0, 9, 1, 0) = 1; error(0, 7, -1) = VOID");
        due.run(SHELF + "lend(0, 4); home(0); compare(0, 5, 1, 0) = 1");
        due.run(SHELF + "lend(0, 4); compare(0, 5, 1, 0) = NOT; compare(0, 4, 1, 0) = 1; home(0);"
                + "compare(0, 5, 1, 0) = 1");
        due.run(ShipEdgesTest.READY + "sail(0, 0, 1, 2); days(2); compare(0, 3, 1, 0) = NOT; compare(0, 4, 1, 0) = NOT;"
                + "compare(0, 2, 1, 0) = NOT; back(0, 30, 30, 30); compare(0, 3, 1, 0) = NOT;"
                + "compare(0, 4, 1, 0) = NOT; error(0, 4, -1) = 30; error(0, 3, -1) = VOID");
    }

    private static void error() {
        due.says(9, "ERROR of a WATCH on a day AS KNOWN on day k. VOID: BAD, MISSING, KIND, or there is none.");
        due.run(SHELF + "compare(0, 2, 8, 0); error(0, 2, -1) = 8; error(0, 1, -1) = VOID; error(0, 3, -1) = VOID;"
                + "error(-1, 2, -1) = VOID; error(16, 2, -1) = VOID; error(3, 2, -1) = VOID; error(2, 2, -1) = VOID;"
                + "error(0, -1, -1) = VOID; error(0, 400, -1) = VOID; error(0, MIN, -1) = VOID;"
                + "error(0, MAX, -1) = VOID; error(0, 2, -2) = VOID; error(0, 2, 400) = VOID;"
                + "error(0, 2, MIN) = VOID; error(0, 2, MAX) = VOID; error(0, 2, 0) = 8; error(0, 2, 399) = 8");
        due.run(SHELF + "compare(1, 0, -1, 0); error(1, 0, -1) = -1; compare(1, 1, -5, 0); error(1, 1, -1) = -5");
        due.says(0, "(A COMPARISON counts whenever it was told.)");
        due.run(SHELF + "compare(0, 2, 8, 0); error(0, 2, 0) = 8; error(0, 2, 1) = 8; error(0, 2, 4) = 8;"
                + "compare(0, 3, 10, 0); rate(0, 2, 0) = 2; changed(0, 0, 5, 0) = 0");
    }

    private static void asKnown() {
        due.says(0, "what was told, less all OFFS of its SOURCE that cover that day, and were told on day k or ahead.");
        due.run(SHELF + "compare(0, 1, 100, 2); compare(0, 2, 100, 2); compare(0, 3, 100, 2); compare(0, 4, 100, 2);"
                + "off(2, 2, 3, 7) = 1; error(0, 1, -1) = 100; error(0, 2, -1) = 93; error(0, 3, -1) = 93;"
                + "error(0, 4, -1) = 100");
        due.run(SHELF + "compare(0, 2, 100, 2); off(2, 2, 2, 7) = 1; error(0, 2, -1) = 93; off(2, 2, 2, 7) = 2;"
                + "error(0, 2, -1) = 86; off(2, 0, 399, -50) = 3; error(0, 2, -1) = 136");
        due.run(SHELF + "compare(0, 2, 100, 1); compare(1, 2, 100, 5); off(2, 0, 399, 1); off(4, 0, 399, 2);"
                + "error(0, 2, -1) = 100; error(1, 2, -1) = 100; off(1, 0, 399, 3); error(0, 2, -1) = 97;"
                + "error(1, 2, -1) = 100; off(5, 0, 399, 4); error(1, 2, -1) = 96; error(0, 2, -1) = 97");
        due.run(SHELF + "compare(0, 2, 100, 0); off(1, 0, 399, 1); off(2, 0, 399, 1); off(3, 0, 399, 1);"
                + "off(4, 0, 399, 1); off(5, 0, 399, 1); error(0, 2, -1) = 100");
        due.run(SHELF + "compare(0, 2, 100, 3); off(3, 2, 2, 1); days(1); off(3, 2, 2, 10); days(2); off(3, 2, 2, 40);"
                + "error(0, 2, 4) = 100; error(0, 2, 5) = 99; error(0, 2, 6) = 89; error(0, 2, 7) = 89;"
                + "error(0, 2, 8) = 49; error(0, 2, -1) = 49; error(0, 2, 9) = 49; error(0, 2, 0) = 100");
        due.run("put(0, 0, 0); off(3, 0, 0, 5) = 1; compare(0, 0, 100, 3); error(0, 0, 0) = 95; error(0, 0, -1) = 95");
        due.run(SHELF + "off(1, 5, 5, 6); compare(0, 5, 10, 1) = 1; error(0, 5, -1) = 4; error(0, 5, 4) = 10;"
                + "compare(0, 0, 10, 1); off(1, 0, 0, 6); error(0, 0, -1) = 4");
        due.says(0, "(k -1: all that is told by now)");
        due.run(SHELF + "compare(0, 2, 100, 3); off(3, 0, 399, 1); days(1); off(3, 0, 399, 2); error(0, 2, -1) = 97;"
                + "error(0, 2, -2) = VOID; error(0, 2, 5) = 99; error(0, 2, 6) = 97; rate(0, 2, -2) = VOID;"
                + "changed(0, 0, 5, -2) = BAD");
    }

    private static void rate() {
        due.says(10, "RATE of a day AS KNOWN on day k. VOID: likewise.");
        due.run(SHELF + "compare(0, 2, 8, 0); compare(0, 3, 12, 0); rate(0, 2, -1) = 4; rate(-1, 2, -1) = VOID;"
                + "rate(16, 2, -1) = VOID; rate(3, 2, -1) = VOID; rate(2, 2, -1) = VOID; rate(0, -1, -1) = VOID;"
                + "rate(0, 400, -1) = VOID; rate(0, MIN, -1) = VOID; rate(0, MAX, -1) = VOID; rate(0, 2, -2) = VOID;"
                + "rate(0, 2, 400) = VOID; rate(0, 2, MAX) = VOID; rate(0, 2, MIN) = VOID; rate(0, 2, 0) = 4;"
                + "rate(0, 2, 399) = 4");
        due.says(0, "ERROR of d + 1 less that of d, if both are there");
        due.run(SHELF + "compare(0, 2, 8, 0); compare(0, 3, 12, 0); rate(0, 1, -1) = VOID; rate(0, 3, -1) = VOID;"
                + "rate(0, 4, -1) = VOID; compare(0, 5, 1, 0); rate(0, 4, -1) = VOID; rate(0, 5, -1) = VOID;"
                + "compare(0, 4, 3, 0); rate(0, 3, -1) = -9; rate(0, 4, -1) = -2");
        due.run("put(0, 0, 0); days(100); days(100); days(100); days(99); compare(0, 399, 1, 0); compare(0, 398, 5, 0);"
                + "rate(0, 398, -1) = -4; rate(0, 399, -1) = VOID");
        due.says(0, "it is at most 999 (without its sign)");
        due.run(SHELF + "compare(0, 0, 0, 0); compare(0, 1, 999, 0); compare(0, 2, 0, 0); compare(0, 3, 1000, 0);"
                + "compare(0, 4, 0, 0); rate(0, 0, -1) = 999; rate(0, 1, -1) = -999; rate(0, 2, -1) = VOID;"
                + "rate(0, 3, -1) = VOID");
        due.run(SHELF + "compare(0, 0, 100000, 0); compare(0, 1, -100000, 0); compare(0, 2, 100000, 0);"
                + "compare(0, 3, 100000, 0); rate(0, 0, -1) = VOID; rate(0, 1, -1) = VOID; rate(0, 2, -1) = 0");
        due.run(SHELF + "compare(0, 0, 0, 0); compare(0, 1, 1000, 1); rate(0, 0, -1) = VOID; off(1, 1, 1, 1);"
                + "rate(0, 0, -1) = 999; rate(0, 0, 4) = VOID; off(1, 1, 1, 1998); rate(0, 0, -1) = -999;"
                + "off(1, 1, 1, 1); rate(0, 0, -1) = VOID; rate(0, 0, 0) = VOID");
    }

    private static void rateLeftOut() {
        String four = SHELF + "compare(0, 1, 10, 0); compare(0, 2, 20, 0); compare(0, 3, 30, 0); compare(0, 4, 40, 0);";
        due.says(0, "the WATCH was not REPAIRED on d + 1");
        due.run(four + "repair(0, 3) = 1; rate(0, 1, -1) = 10; rate(0, 2, -1) = VOID; rate(0, 3, -1) = 10;"
                + "rate(0, 2, 0) = VOID; error(0, 3, -1) = 30");
        due.says(0, "(It is REPAIRED ahead of that day's COMPARISON.)");
        due.run(four + "repair(0, 1) = 1; rate(0, 1, -1) = 10; repair(0, 4) = 1; rate(0, 3, -1) = VOID;"
                + "rate(0, 2, -1) = 10");
        due.says(0, "nor wound LATE on d or d + 1.");
        due.run(four + "late(0, 3) = 1; rate(0, 1, -1) = 10; rate(0, 2, -1) = VOID; rate(0, 3, -1) = VOID;"
                + "error(0, 3, -1) = 30");
        due.run(four + "late(0, 1) = 1; rate(0, 1, -1) = VOID; rate(0, 2, -1) = 10; late(0, 5) = 1; rate(0, 3, -1) = 10;"
                + "late(0, 0) = 1; rate(0, 2, -1) = 10; late(1, 3) = 1; rate(0, 2, -1) = 10");
        due.run("put(0, 0, 0); days(1); compare(0, 0, 1, 0); compare(0, 1, 2, 0); repair(0, 0); rate(0, 0, -1) = 1;"
                + "late(0, 0); rate(0, 0, -1) = VOID");
    }

    private static void repair() {
        due.says(11, "A WATCH was REPAIRED on a day (TODAY or ahead): 1; 0: that was told already. BAD, MISSING, KIND.");
        due.run(SHELF + "repair(0, 5) = 1; repair(0, 5) = 0; repair(0, 0) = 1; repair(0, 0) = 0; repair(0, 6) = BAD;"
                + "repair(0, -1) = BAD; repair(0, MIN) = BAD; repair(0, MAX) = BAD; repair(1, 5) = 1; age(0, 5) = 0;"
                + "age(0, 4) = 4");
        due.run(SHELF + "repair(-1, 0) = BAD; repair(16, 0) = BAD; repair(3, 0) = MISSING; repair(2, 0) = KIND;"
                + "repair(3, 6) = BAD; repair(2, 6) = BAD; repair(2, -1) = BAD");
        due.run(SHELF + "late(0, 3); repair(0, 3) = 1; repair(0, 3) = 0; late(0, 3) = 0; repair(0, 2) = 1;"
                + "lend(0, 4); days(1); repair(0, 6) = 1; repair(0, 5) = 1");
    }

    private static void late() {
        due.says(12, "It was wound LATE on a day (TODAY or ahead): 1; 0: likewise. BAD, MISSING, KIND.");
        due.run(SHELF + "late(0, 5) = 1; late(0, 5) = 0; late(0, 0) = 1; late(0, 0) = 0; late(0, 6) = BAD;"
                + "late(0, -1) = BAD; late(0, MIN) = BAD; late(0, MAX) = BAD; late(1, 5) = 1; age(0, 5) = 5");
        due.run(SHELF + "late(-1, 0) = BAD; late(16, 0) = BAD; late(3, 0) = MISSING; late(2, 0) = KIND;"
                + "late(3, 6) = BAD; late(2, 6) = BAD; late(2, -1) = BAD");
        due.run(SHELF + "repair(0, 3); late(0, 3) = 1; late(0, 3) = 0; repair(0, 3) = 0; age(0, 3) = 0; late(0, 2) = 1;"
                + "lend(0, 4); days(1); late(0, 6) = 1; late(0, 5) = 1");
    }

    private static void age() {
        due.says(0, "the days since it was REPAIRED last (d or ahead); if never, d.");
        due.run(SHELF + "age(0, 0) = 0; age(0, 5) = 5; age(0, 399) = 399; repair(0, 2); age(0, 1) = 1; age(0, 2) = 0;"
                + "age(0, 3) = 1; age(0, 399) = 397; repair(0, 5); age(0, 4) = 2; age(0, 5) = 0; age(0, 6) = 1;"
                + "repair(0, 3); age(0, 4) = 1; age(0, 5) = 0; age(1, 5) = 5");
        due.run(SHELF + "repair(0, 0); age(0, 0) = 0; age(0, 399) = 399; age(1, 399) = 399; repair(1, 1);"
                + "age(1, 399) = 398; age(1, 0) = 0");
        due.says(13, "AGE on a day. BAD, MISSING, KIND.");
        due.run(SHELF + "age(0, -1) = BAD; age(0, 400) = BAD; age(0, MIN) = BAD; age(0, MAX) = BAD; age(-1, 0) = BAD;"
                + "age(16, 0) = BAD; age(3, 0) = MISSING; age(2, 0) = KIND; age(3, 400) = BAD; age(2, -1) = BAD");
    }

    private static void off() {
        due.says(14, "A SIGNAL is found OFF by v on days a to b (a at most b, b at most 399): how many were told. BAD, FULL.");
        due.run("off(1, 0, 0, 1) = 1; off(1, 399, 399, 1) = 2; off(1, 0, 399, 1) = 3; off(1, 5, 5, 1) = 4; count(2) = 4");
        due.run("off(1, 1, 0, 1) = BAD; off(1, 399, 398, 1) = BAD; off(1, 0, 400, 1) = BAD; off(1, 400, 400, 1) = BAD;"
                + "off(1, -1, 0, 1) = BAD; off(1, -1, -1, 1) = BAD; off(1, MIN, MAX, 1) = BAD; off(1, 0, MAX, 1) = BAD;"
                + "off(1, MIN, 0, 1) = BAD; off(1, MAX, MIN, 1) = BAD; count(2) = 0");
        due.says(0, "SIGNALS 1 .. 5 may be found OFF: by v (-10000 .. 10000) on days a to b");
        due.run("off(0, 0, 0, 1) = BAD; off(6, 0, 0, 1) = BAD; off(-1, 0, 0, 1) = BAD; off(MIN, 0, 0, 1) = BAD;"
                + "off(MAX, 0, 0, 1) = BAD; count(2) = 0; off(1, 0, 0, 1) = 1; off(5, 0, 0, 1) = 2");
        due.run(SHELF + "compare(0, 0, 0, 2); off(2, 0, 0, 10001) = BAD; off(2, 0, 0, -10001) = BAD;"
                + "off(2, 0, 0, MIN) = BAD; off(2, 0, 0, MAX) = BAD; error(0, 0, -1) = 0; off(2, 0, 0, 10000) = 1;"
                + "error(0, 0, -1) = -10000; off(2, 0, 0, -10000) = 2; off(2, 0, 0, -10000) = 3;"
                + "error(0, 0, -1) = 10000; off(2, 0, 0, 0) = 4; error(0, 0, -1) = 10000");
        due.says(0, "told on a day (TODAY then); at most 60 such in all.");
        StringBuilder sixty = new StringBuilder("put(0, 0, 0); put(1, 0, 0); compare(0, 0, -100000, 3);"
                + "compare(1, 0, 0, 1);");
        for (int i = 1; i <= 60; i++) {
            sixty.append("off(" + (i <= 30 ? 3 : 1 + i % 5) + ", 0, 399, 10000) = " + i + ";");
        }
        // by signal 3: the first thirty, and six of the others; by signal 1 six, of which one is the last of all
        due.run(sixty + "off(3, 0, 399, 1) = FULL; off(1, 0, 0, 0) = FULL; count(2) = 60; error(0, 0, -1) = -460000;"
                + "error(1, 0, -1) = -60000;"
                + "off(6, 0, 0, 0) = BAD; off(1, 1, 0, 0) = BAD; off(1, 0, 0, 10001) = BAD; days(1);"
                + "off(3, 0, 399, 1) = FULL; count(2) = 60");
    }

    private static void changed() {
        String run = SHELF + "compare(0, 0, 0, 1); compare(0, 1, 10, 1); compare(0, 2, 20, 1); compare(0, 3, 1019, 1);"
                + "compare(0, 4, 2019, 1);";
        due.says(15, "How many RATES changed between AS KNOWN on day k and by now, of days p to q - 1 of a WATCH");
        due.run(run + "off(1, 2, 2, 1); changed(0, 0, 5, 4) = 2; changed(0, 0, 1, 4) = 0; changed(0, 1, 2, 4) = 1;"
                + "changed(0, 2, 3, 4) = 1; changed(0, 0, 2, 4) = 1; changed(0, 3, 4, 4) = 0; changed(0, 2, 5, 4) = 1;"
                + "changed(0, 0, 5, 5) = 0; changed(0, 0, 5, -1) = 0; changed(0, 0, 5, 399) = 0");
        due.says(15, "one that is there just in one of both counts");
        due.run(run + "off(1, 4, 4, 1); rate(0, 3, 4) = VOID; rate(0, 3, -1) = 999; changed(0, 0, 5, 4) = 1;"
                + "days(1); off(1, 4, 4, -1); changed(0, 0, 5, 5) = 1; changed(0, 0, 5, 4) = 0");
        due.run(run + "off(1, 3, 3, 1000); rate(0, 2, 4) = 999; rate(0, 2, -1) = -1; rate(0, 3, 4) = VOID;"
                + "rate(0, 3, -1) = VOID; changed(0, 0, 5, 4) = 1");
        due.run(run + "off(1, 3, 3, -1); rate(0, 2, 4) = 999; rate(0, 2, -1) = VOID; rate(0, 3, -1) = 999;"
                + "changed(0, 2, 3, 4) = 1; changed(0, 3, 4, 4) = 1; late(0, 3); changed(0, 0, 5, 4) = 0");
        due.run(run + "off(1, 0, 399, 5); changed(0, 0, 5, 4) = 0; off(2, 0, 399, 5); changed(0, 0, 5, 4) = 0;"
                + "off(1, 1, 1, 0); changed(0, 0, 5, 4) = 0");
        due.says(15, "(q - p 1 .. 60;");
        due.run(run + "changed(0, 0, 60, 0) = 0; changed(0, 0, 61, 0) = BAD; changed(0, 3, 4, 0) = 0;"
                + "changed(0, 3, 3, 0) = BAD; changed(0, 4, 3, 0) = BAD; changed(0, 339, 399, 0) = 0;"
                + "changed(0, 340, 400, 0) = BAD; changed(0, 399, 400, 0) = BAD; changed(0, 398, 399, 0) = 0;"
                + "changed(0, -1, 3, 0) = BAD; changed(0, MIN, MAX, 0) = BAD; changed(0, MAX, MIN, 0) = BAD;"
                + "changed(0, MIN, -2147483647, 0) = BAD");
        due.says(15, "BAD, MISSING, KIND.");
        due.run(run + "changed(-1, 0, 5, 0) = BAD; changed(16, 0, 5, 0) = BAD; changed(3, 0, 5, 0) = MISSING;"
                + "changed(2, 0, 5, 0) = KIND; changed(0, 0, 5, -2) = BAD; changed(0, 0, 5, 400) = BAD;"
                + "changed(0, 0, 5, MIN) = BAD; changed(0, 0, 5, MAX) = BAD; changed(3, 0, 0, 0) = BAD;"
                + "changed(2, 0, 0, 0) = BAD; changed(3, 0, 5, 400) = BAD; changed(2, 0, 5, -2) = BAD");
    }
}

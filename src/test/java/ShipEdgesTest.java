/** The sentences of the document that name a boundary case, of promises 24 to 29. */
public final class ShipEdgesTest {
    private static final Due due = new Due("ShipEdgesTest");

    /** On day 2: watches at 0, 1, a box at 2, each fit to sail; a glass at 3, nothing from 4 on. */
    static final String READY = "put(0, 0, 0); put(1, 0, 0); put(2, 1, 5); put(3, 2, 9); days(2);"
            + errors(0, 0, 0, 10, 20) + errors(1, 0, 5, 0, -10) + errors(2, 0, 100, 103, 100);

    /**
     * Ship 0 sailed on day 2 (START 20, -10, 100; GOING 10, -8, 0; DOUBT 1, 3, 4), and has a sight of day 7, which is
     * TODAY: TIMES 0, 100, 15, off by 57, 93, 35; WIDTHS 10, 20, 25.
     */
    static final String AT_SEA = READY + "sail(0, 0, 1, 2); days(5); sight(0, 7, 70, 50, 115) = 0;";

    public static void main(String[] args) {
        ships();
        sailRefused();
        sailAsTold();
        sailWindow();
        kept();
        carried();
        sightDays();
        sightNumbers();
        sightRefused();
        sightsFull();
        timesFarAway();
        told();
        places();
        dropped();
        dropNames();
        back();
        backRefused();
        backTimes();
        newVoyage();
        state();
        due.end();
    }

    private static String errors(int place, int first, int... errors) {
        StringBuilder calls = new StringBuilder();
        for (int i = 0; i < errors.length; i++) {
            calls.append("compare(" + place + ", " + (first + i) + ", " + errors[i] + ", 0);");
        }
        return calls.toString();
    }

    private static void ships() {
        due.says(0, "SHIPS 0 .. 4.");
        due.run(READY + "sail(-1, 0, 1, 2) = BAD; sail(5, 0, 1, 2) = BAD; sail(MIN, 0, 1, 2) = BAD;"
                + "sail(MAX, 0, 1, 2) = BAD; count(3) = 0; sail(4, 0, 1, 2) = 1; state(4) = 1; count(3) = 1");
        due.run(READY + "sail(0, 0, 1, 2) = 1; state(0) = 1; count(3) = 1; holder(0, 2) = 100; holder(2, 2) = 100");
        due.run(READY + "sail(4, 0, 1, 2) = 1; holder(1, 2) = 104");
    }

    private static void sailRefused() {
        due.says(24, "A SHIP SAILS with the WATCHES at three unlike PLACES: 1.");
        due.run(READY + "sail(0, 0, 0, 2) = BAD; sail(0, 0, 1, 0) = BAD; sail(0, 0, 1, 1) = BAD; sail(0, 1, 1, 1) = BAD;"
                + "sail(0, -1, 1, 2) = BAD; sail(0, 0, -1, 2) = BAD; sail(0, 0, 1, -1) = BAD; sail(0, 16, 1, 2) = BAD;"
                + "sail(0, 0, 16, 2) = BAD; sail(0, 0, 1, 16) = BAD; sail(0, MIN, 1, 2) = BAD; sail(0, 0, MAX, 2) = BAD;"
                + "state(0) = 0; sail(0, 2, 1, 0) = 1");
        due.says(24, "BAD, MISSING, KIND (a first); NOT: it is at sea, or as told.");
        due.run(READY + "sail(0, 4, 1, 2) = MISSING; sail(0, 0, 4, 2) = MISSING; sail(0, 0, 1, 15) = MISSING;"
                + "sail(0, 3, 1, 2) = KIND; sail(0, 0, 3, 2) = KIND; sail(0, 0, 1, 3) = KIND; state(0) = 0");
        due.run(READY + "sail(0, 3, 4, 2) = KIND; sail(0, 4, 3, 2) = MISSING; sail(0, 0, 3, 4) = KIND;"
                + "sail(0, 0, 4, 3) = MISSING; sail(0, 3, 1, 4) = KIND; sail(0, 4, 1, 3) = MISSING");
        due.run(READY + "sail(0, 4, 16, 2) = BAD; sail(0, 4, 1, -1) = BAD; sail(0, 3, 1, 16) = BAD; sail(0, 16, 4, 2) = BAD;"
                + "sail(0, 4, 4, 2) = BAD; sail(0, 3, 1, 3) = BAD; sail(0, 4, 1, 1) = BAD; sail(5, 4, 1, 2) = BAD;"
                + "sail(-1, 3, 1, 2) = BAD; sail(0, 0, 4, 16) = BAD");
        due.run(AT_SEA + "sail(0, 0, 1, 2) = NOT; sail(0, 0, 1, 4) = MISSING; sail(0, 0, 3, 2) = KIND;"
                + "sail(0, 0, 0, 2) = BAD; sail(1, 0, 1, 2) = NOT; state(0) = 1; state(1) = 0; holder(0, 7) = 100");
        due.run(READY + "lend(1, 4); sail(0, 0, 1, 4) = MISSING; sail(0, 3, 1, 2) = KIND; sail(0, 0, 1, 1) = BAD;"
                + "sail(0, 0, 1, 2) = NOT");
    }

    private static void sailAsTold() {
        due.says(0, "One SAILS TODAY with three WATCHES (their PLACES), each the office's, with a COMPARISON TODAY");
        due.run(READY + "lend(0, 0); sail(0, 0, 1, 2) = NOT; home(0); lend(1, 19); sail(0, 0, 1, 2) = NOT; home(1);"
                + "lend(2, 7); sail(0, 0, 1, 2) = NOT; holder(0, 2) = -1; holder(2, 2) = 7; home(2);"
                + "sail(0, 0, 1, 2) = 1; holder(2, 2) = 100");
        due.run(READY + "days(1); sail(0, 0, 1, 2) = NOT; compare(0, 3, 30, 0); compare(1, 3, 30, 0);"
                + "sail(0, 0, 1, 2) = NOT; sail(0, 2, 1, 0) = NOT; sail(0, 0, 2, 1) = NOT; state(0) = 0;"
                + "compare(2, 3, 99, 5); sail(0, 0, 1, 2) = 1; holder(0, 2) = -1; holder(0, 3) = 100");
        due.run(READY + "sail(0, 0, 1, 2) = 1; sail(1, 0, 1, 2) = NOT; sail(1, 2, 0, 1) = NOT; state(1) = 0");
        due.says(0, "and with at least two RATES among the 30 days ahead of TODAY (AS KNOWN by now)");
        due.run(READY + "late(1, 0) = 1; sail(0, 0, 1, 2) = NOT; state(0) = 0; holder(0, 2) = -1");
        due.run(READY + "repair(2, 1) = 1; sail(0, 0, 1, 2) = NOT; state(0) = 0");
        due.run(READY + "repair(2, 0) = 1; sail(0, 0, 1, 2) = 1");
        due.run("put(0, 0, 0); put(1, 0, 0); put(2, 0, 0);" + errors(0, 0, 1) + errors(1, 0, 1) + errors(2, 0, 1)
                + "sail(0, 0, 1, 2) = NOT; days(1);" + errors(0, 1, 2) + errors(1, 1, 2) + errors(2, 1, 2)
                + "sail(0, 0, 1, 2) = NOT; days(1);" + errors(0, 2, 3) + errors(1, 2, 3) + errors(2, 2, 3)
                + "sail(0, 0, 1, 2) = 1; carried(0, 0, 2) = 1; carried(0, 0, 3) = 1");
        String bySignal = "put(0, 0, 0); put(1, 0, 0); put(2, 0, 0); days(2);" + errors(0, 0, 0, 0, 0)
                + errors(1, 0, 0, 0, 0) + "compare(2, 0, 0, 0); compare(2, 1, 999, 3); compare(2, 2, 0, 0);";
        due.run(bySignal + "sail(0, 0, 1, 2) = 1; carried(0, 2, 3) = 1000; carried(0, 2, 2) = 0");
        due.run(bySignal + "off(3, 1, 1, -1); sail(0, 0, 1, 2) = NOT; off(3, 1, 1, 1); sail(0, 0, 1, 2) = 1");
    }

    /** Two rates of days 0 and 1, and a comparison on a later day. */
    private static String twoRatesThenOn(int today) {
        StringBuilder calls = new StringBuilder("put(0, 0, 0); put(1, 0, 0); put(2, 0, 0); days(" + today + ");");
        for (int place = 0; place < 3; place++) {
            calls.append(errors(place, 0, 0, 5, 12) + errors(place, today, 77));
        }
        return calls.toString();
    }

    private static void sailWindow() {
        due.says(0, "among the 30 days ahead of TODAY");
        due.run(twoRatesThenOn(29) + "sail(0, 0, 1, 2) = 1");
        due.run(twoRatesThenOn(30) + "sail(0, 0, 1, 2) = 1; carried(0, 0, 2) = 6; carried(0, 0, 3) = 2");
        due.run(twoRatesThenOn(31) + "sail(0, 0, 1, 2) = NOT; state(0) = 0; count(3) = 0");
        due.run(twoRatesThenOn(31) + "compare(0, 30, 70, 0); compare(1, 30, 70, 0); compare(2, 30, 70, 0);"
                + "sail(0, 0, 1, 2) = 1; carried(0, 0, 2) = 7; carried(0, 1, 3) = 1");
    }

    private static void kept() {
        due.says(0, "START (its ERROR now), GOING (the sum of these RATES divided by how many, rounded down)");
        due.run(READY + "sail(0, 0, 1, 2); carried(0, 0, 1) = 20; carried(0, 1, 1) = -10; carried(0, 2, 1) = 100;"
                + "carried(0, 0, 2) = 10; carried(0, 1, 2) = -8; carried(0, 2, 2) = 0");
        due.run("put(0, 0, 0); put(1, 0, 0); put(2, 0, 0); days(3);" + errors(0, 0, 0, 0, 0, -1)
                + errors(1, 0, 0, 0, 0, 1) + errors(2, 0, 0, -1, -2, -3)
                + "sail(0, 0, 1, 2); carried(0, 0, 2) = -1; carried(0, 1, 2) = 0; carried(0, 2, 2) = -1");
        due.run("put(0, 0, 0); put(1, 0, 0); put(2, 0, 0); days(2); off(1, 0, 399, 3); off(1, 2, 2, 4);" + errors(0, 0, 0, 0)
                + errors(1, 0, 0, 0) + errors(2, 0, 0, 0, 0) + "compare(0, 2, 20, 1); compare(1, 2, 20, 2);"
                + "sail(0, 0, 1, 2); carried(0, 0, 1) = 13; carried(0, 1, 1) = 20; off(1, 0, 399, 50);"
                + "carried(0, 0, 1) = 13; carried(0, 0, 2) = 6; error(0, 2, -1) = -37");
        due.says(0, "DOUBT (1 and half of most - least, the rest away).");
        due.run(READY + "sail(0, 0, 1, 2); carried(0, 0, 3) = 1; carried(0, 1, 3) = 3; carried(0, 2, 3) = 4");
        due.run("put(0, 0, 0); put(1, 0, 0); put(2, 0, 0); days(2);" + errors(0, 0, 0, 0, 1) + errors(1, 0, 0, 0, 2)
                + errors(2, 0, 0, 999, 0) + "sail(0, 0, 1, 2); carried(0, 0, 3) = 1; carried(0, 1, 3) = 2;"
                + "carried(0, 2, 3) = 1000; carried(0, 2, 2) = 0");
        due.says(0, "HOLDER of each is the SHIP.");
        due.run(READY + "sail(3, 0, 1, 2); holder(0, 2) = 103; holder(1, 2) = 103; holder(2, 2) = 103; holder(0, 1) = -1;"
                + "lend(0, 1) = NOT; home(0) = NOT; take(0) = NOT; compare(0, 2, 5, 0) = NOT; repair(0, 2) = 1;"
                + "late(0, 2) = 1; days(3); holder(1, 5) = 103; away(1) = 4; home(1) = NOT");
    }

    private static void carried() {
        due.says(25, "Of WATCH i (0 .. 2) of a SHIP in its latest voyage: 0 PLACE (at SAILING), 1 START, 2 GOING, 3 DOUBT."
                + " VOID: BAD, it never SAILED.");
        due.run(READY + "carried(0, 0, 0) = VOID; carried(4, 2, 3) = VOID; sail(0, 2, 0, 1); carried(0, 0, 0) = 2;"
                + "carried(0, 1, 0) = 0; carried(0, 2, 0) = 1; carried(0, -1, 0) = VOID; carried(0, 3, 0) = VOID;"
                + "carried(0, 0, -1) = VOID; carried(0, 0, 4) = VOID; carried(-1, 0, 0) = VOID; carried(5, 0, 0) = VOID;"
                + "carried(1, 0, 0) = VOID; carried(0, MIN, 0) = VOID; carried(0, MAX, 0) = VOID;"
                + "carried(0, 0, MIN) = VOID; carried(0, 0, MAX) = VOID; carried(MIN, 0, 0) = VOID;"
                + "carried(MAX, 0, 0) = VOID; carried(0, 2, 3) = 3");
        due.run(AT_SEA + "back(0, 70, -50, 100); carried(0, 1, 0) = 1; carried(0, 1, 1) = -10; carried(0, 1, 2) = -8;"
                + "carried(0, 1, 3) = 3; take(1) = 1; carried(0, 1, 0) = 1; carried(0, 1, 3) = 3");
    }

    private static void sightDays() {
        due.says(26, "A SIGHT on a day (behind that when it SAILED, not behind TODAY, not ahead of its latest SIGHT): its number.");
        due.run(READY + "sail(0, 0, 1, 2); sight(0, 2, 1, 1, 1) = BAD; sight(0, 3, 1, 1, 1) = BAD; days(1);"
                + "sight(0, 2, 1, 1, 1) = BAD; sight(0, 4, 1, 1, 1) = BAD; sight(0, 3, 1, 1, 1) = 0; told(0, 0, 0) = 3");
        due.run(READY + "sail(0, 0, 1, 2); days(8); sight(0, 1, 1, 1, 1) = BAD; sight(0, 0, 1, 1, 1) = BAD;"
                + "sight(0, -1, 1, 1, 1) = BAD; sight(0, 11, 1, 1, 1) = BAD; sight(0, 400, 1, 1, 1) = BAD;"
                + "sight(0, MIN, 1, 1, 1) = BAD; sight(0, MAX, 1, 1, 1) = BAD; told(0, 0, 0) = VOID;"
                + "sight(0, 10, 1, 1, 1) = 0; sight(0, 9, 1, 1, 1) = BAD; sight(0, 10, 1, 1, 1) = 1; told(0, 1, 0) = 10");
        due.run(READY + "sail(0, 0, 1, 2); days(8); sight(0, 5, 1, 1, 1) = 0; sight(0, 4, 1, 1, 1) = BAD;"
                + "sight(0, 5, 2, 2, 2) = 1; sight(0, 6, 3, 3, 3) = 2; sight(0, 5, 1, 1, 1) = BAD; told(0, 2, 0) = 6;"
                + "told(0, 3, 0) = VOID");
    }

    private static void sightNumbers() {
        due.says(0, "what the three show, less the time of the place (-2000000 .. 2000000 each).");
        due.run(READY + "sail(0, 0, 1, 2); days(1); sight(0, 3, 2000001, 0, 0) = BAD; sight(0, 3, -2000001, 0, 0) = BAD;"
                + "sight(0, 3, 0, 2000001, 0) = BAD; sight(0, 3, 0, -2000001, 0) = BAD; sight(0, 3, 0, 0, 2000001) = BAD;"
                + "sight(0, 3, 0, 0, -2000001) = BAD; sight(0, 3, MIN, 0, 0) = BAD; sight(0, 3, 0, MAX, 0) = BAD;"
                + "sight(0, 3, 0, 0, MIN) = BAD; told(0, 0, 0) = VOID; sight(0, 3, 2000000, -2000000, 2000000) = 0;"
                + "told(0, 0, 4) = 1999970; told(0, 0, 5) = -1999982; told(0, 0, 6) = 1999900;"
                + "sight(0, 3, -2000000, 2000000, -2000000) = 1; told(0, 1, 4) = -2000030; told(0, 1, 5) = 2000018");
    }

    private static void sightRefused() {
        due.says(26, "BAD; NOT: it is not at sea; FULL: 40.");
        due.run(READY + "sight(-1, 2, 0, 0, 0) = BAD; sight(5, 2, 0, 0, 0) = BAD; sight(MIN, 2, 0, 0, 0) = BAD;"
                + "sight(MAX, 2, 0, 0, 0) = BAD; sight(0, 2, 0, 0, 0) = NOT; sight(0, 3, 0, 0, 0) = BAD;"
                + "sight(0, -1, 0, 0, 0) = BAD; sight(0, 2, 2000001, 0, 0) = BAD; sight(4, 2, 0, 0, 0) = NOT");
        due.run(AT_SEA + "sight(1, 7, 0, 0, 0) = NOT; back(0, 1, 1, 1); sight(0, 7, 0, 0, 0) = NOT;"
                + "sight(0, 8, 0, 0, 0) = BAD; sight(0, 7, 0, 0, 2000001) = BAD; days(1); sight(0, 8, 0, 0, 0) = NOT;"
                + "told(0, 0, 0) = 7; told(0, 1, 0) = VOID");
    }

    private static void sightsFull() {
        due.says(0, "At most 40 SIGHTS a SHIP in one voyage;");
        StringBuilder forty = new StringBuilder(READY + "sail(0, 0, 1, 2); days(9);");
        for (int i = 0; i < 40; i++) {
            forty.append("sight(0, " + (3 + i / 6) + ", " + i + ", 0, 0) = " + i + ";");
        }
        due.run(forty + "sight(0, 9, 0, 0, 0) = FULL; sight(0, 11, 0, 0, 0) = FULL; sight(0, 8, 0, 0, 0) = BAD;"
                + "sight(0, 12, 0, 0, 0) = BAD; sight(0, 11, 2000001, 0, 0) = BAD; told(0, 39, 0) = 9;"
                + "told(0, 39, 4) = -51; told(0, 40, 0) = VOID; told(0, 0, 4) = -30; back(0, 1, 1, 1) = 9;"
                + "sight(0, 11, 0, 0, 0) = NOT; told(0, 39, 0) = 9");
    }

    private static void timesFarAway() {
        due.says(0, "TIME of one: that, less START, less GOING times n. WIDTH: DOUBT times n, and 5.");
        // rates 999, 999 and -999, -999 and 999, -999; 397 days at sea
        due.run("put(0, 0, 0); put(1, 0, 0); put(2, 0, 0); days(2);" + errors(0, 0, 98002, 99001, 100000)
                + errors(1, 0, -98002, -99001, -100000) + errors(2, 0, 0, 999, 0)
                + "sail(0, 0, 1, 2); days(100); days(100); days(100); days(97); sight(0, 399, -2000000, 2000000, 0) = 0;"
                + "carried(0, 0, 2) = 999; carried(0, 1, 2) = -999; carried(0, 2, 3) = 1000; told(0, 0, 4) = -2496603;"
                + "told(0, 0, 5) = 2496603; told(0, 0, 6) = 0; told(0, 0, 7) = 402; told(0, 0, 9) = 397005;"
                + "told(0, 0, 2) = VOID; tape 'off'; rule(1); told(0, 0, 1) = 1; tape 'off = 37449 * 100 + 4'; rule(1);"
                + "told(0, 0, 1) = 0; tape 'off = 37449 * 100 + 5'; rule(1); told(0, 0, 1) = 1;"
                + "back(0, 100000, -100000, 0) = 397; told(0, 0, 4) = -2100000; told(0, 0, 9) = 5");
        String bySignal = "put(0, 0, 0); put(1, 0, 0); put(2, 0, 0); days(2);" + "off(4, 2, 2, 10000);".repeat(60)
                + errors(0, 0, 0, 0, 0) + errors(1, 0, 0, 0, 0);
        due.run(bySignal + "off(4, 2, 2, 1) = FULL; compare(2, 0, 0, 0); compare(2, 1, 0, 0); compare(2, 2, 0, 4);"
                + "error(2, 2, -1) = -600000; rate(2, 1, -1) = VOID; sail(0, 0, 1, 2) = NOT");
        due.run(bySignal + "repair(2, 2); days(2); compare(2, 0, 0, 0); compare(2, 1, 0, 0); compare(2, 3, 0, 0);"
                + "compare(2, 4, 0, 0); compare(0, 4, 0, 0); compare(1, 4, 0, 0); sail(0, 0, 1, 2) = 1");
        due.says(0, "From then on TIME of a SIGHT is what it showed, less START, less n times (that ERROR less START)");
        String far = "put(0, 0, 0); put(1, 0, 0); put(2, 0, 0); days(2);" + "off(4, 0, 2, 10000);".repeat(60)
                + errors(0, 0, 0, 0, 0) + errors(1, 0, 0, 0, 0) + "compare(2, 0, -100000, 4); compare(2, 1, -100000, 4);"
                + "compare(2, 2, -100000, 4); sail(0, 0, 1, 2); carried(0, 2, 1) = -700000; days(100); days(100); days(100);"
                + "days(97); sight(0, 398, 0, 0, 2000000); sight(0, 399, 0, 0, -2000000);";
        due.run(far + "told(0, 0, 6) = 2700000; told(0, 1, 6) = -1300000; back(0, 0, 0, 100000) = 397;"
                + "told(0, 0, 6) = 1902016; told(0, 1, 6) = -2100000");
    }

    private static void told() {
        due.says(27, "1 which one is DROPPED (-1: none), 2 where its PLACE begins, 3 where it ends (both VOID if it is EMPTY)");
        due.run(AT_SEA + "told(0, 0, 1) = -1; told(0, 0, 2) = VOID; told(0, 0, 3) = VOID; tape 'which = 1'; rule(1);"
                + "told(0, 0, 1) = 1; told(0, 0, 2) = -10; told(0, 0, 3) = 10");
        due.says(27, "4 to 6 TIMES of the three, 7 to 9 WIDTHS. VOID: BAD.");
        due.run(AT_SEA + "told(0, 0, 0) = 7; told(0, 0, 4) = 0; told(0, 0, 5) = 100; told(0, 0, 6) = 15;"
                + "told(0, 0, 7) = 10; told(0, 0, 8) = 20; told(0, 0, 9) = 25; told(0, 0, 10) = VOID;"
                + "told(0, 0, -1) = VOID; told(0, 1, 0) = VOID; told(0, -1, 0) = VOID; told(0, 39, 0) = VOID;"
                + "told(0, 40, 0) = VOID; told(-1, 0, 0) = VOID; told(5, 0, 0) = VOID; told(1, 0, 0) = VOID;"
                + "told(0, MIN, 0) = VOID; told(0, MAX, 0) = VOID; told(0, 0, MIN) = VOID; told(0, 0, MAX) = VOID;"
                + "told(MIN, 0, 0) = VOID; told(MAX, 0, 0) = VOID");
        due.run(READY + "told(0, 0, 0) = VOID; sail(0, 0, 1, 2); told(0, 0, 0) = VOID; days(1); told(0, 0, 0) = VOID;"
                + "sight(0, 3, 30, -18, 100); told(0, 0, 7) = 6; told(0, 0, 8) = 8; told(0, 0, 9) = 9;"
                + "told(0, 0, 4) = 0; told(0, 0, 5) = 0; told(0, 0, 6) = 0; told(0, 0, 2) = -6; told(0, 0, 3) = 6;"
                + "told(0, 0, -1) = VOID; told(0, 0, 10) = VOID; told(0, 1, 2) = VOID; told(0, -1, 2) = VOID");
    }

    private static void places() {
        due.says(0, "from the greatest beginning to the least end of the SPANS of those that are not DROPPED;");
        // TIMES 20, 17, 10; WIDTHS 9, 17, 21: 11 to 29, 0 to 34, -11 to 31
        due.run(READY + "sail(0, 0, 1, 2); days(5); sight(0, 6, 80, -25, 110); told(0, 0, 1) = -1; told(0, 0, 2) = 11;"
                + "told(0, 0, 3) = 29; tape 'which = 0'; rule(1); told(0, 0, 1) = 0; told(0, 0, 2) = 0;"
                + "told(0, 0, 3) = 31; tape 'which = 1'; rule(1); told(0, 0, 2) = 11; told(0, 0, 3) = 29;"
                + "tape 'which'; rule(1); told(0, 0, 1) = 2; told(0, 0, 2) = 11; told(0, 0, 3) = 29");
        due.says(0, "EMPTY, if that ends ahead of its beginning.");
        // of day 7: -10 to 10, and from 9, 10, 11 on
        due.run(READY + "sail(0, 0, 1, 2); days(5); sight(0, 7, 70, -21, 115); told(0, 0, 2) = 9; told(0, 0, 3) = 10;"
                + "sight(0, 7, 70, -20, 115); told(0, 1, 2) = 10; told(0, 1, 3) = 10; sight(0, 7, 70, -19, 115);"
                + "told(0, 2, 2) = VOID; told(0, 2, 3) = VOID; told(0, 2, 0) = 7; told(0, 2, 1) = -1;"
                + "told(0, 2, 4) = 0; told(0, 2, 5) = 31; told(0, 2, 8) = 20");
    }

    private static void dropped() {
        due.says(0, "gives the most is DROPPED, if that is above 0 (the first of several); without a DROP rule none.");
        due.run(AT_SEA + "told(0, 0, 1) = -1; told(0, 0, 2) = VOID; tape 'off'; rule(1); told(0, 0, 1) = 1;"
                + "told(0, 0, 2) = -10; told(0, 0, 3) = 10");
        due.run(AT_SEA + "tape '0'; rule(1); told(0, 0, 1) = -1; tape '1'; rule(1); told(0, 0, 1) = 0;"
                + "tape '-1'; rule(1); told(0, 0, 1) = -1; tape 'which > 0'; rule(1); told(0, 0, 1) = 1;"
                + "tape 'which - 1'; rule(1); told(0, 0, 1) = 2; tape 'which - 2'; rule(1); told(0, 0, 1) = -1;"
                + "tape '3 - which'; rule(1); told(0, 0, 1) = 0");
        due.run(AT_SEA + "tape 'off - 93'; rule(1); told(0, 0, 1) = -1; tape 'off - 92'; rule(1); told(0, 0, 1) = 1;"
                + "tape '99999 * 99999 * (1 - which)'; rule(1); told(0, 0, 1) = 0");
        due.says(0, "(as it is when that is asked)");
        due.run(AT_SEA + "tape 'which'; rule(1); told(0, 0, 1) = 2; tape 'off'; rule(1); told(0, 0, 1) = 1;"
                + "tape 'off <'; rule(1) = -105; told(0, 0, 1) = 1; sight(0, 7, 0, 0, 0); told(0, 0, 1) = 1");
    }

    private static void dropNames() {
        due.says(0, "off: its TIME less the mean of the other two (their sum divided by 2, rounded down), without its sign;");
        due.run(AT_SEA + "tape 'off = 57'; rule(1); told(0, 0, 1) = 0; tape 'off = 93'; rule(1); told(0, 0, 1) = 1;"
                + "tape 'off = 35'; rule(1); told(0, 0, 1) = 2");
        // TIMES -1, 0, 0: the mean of -1 and 0 is -1
        due.run(READY + "sail(0, 0, 1, 2); days(5); sight(0, 7, 69, -50, 100); tape 'off = 1 and which = 0'; rule(1);"
                + "told(0, 0, 1) = 0; tape 'off = 1 and which = 1'; rule(1); told(0, 0, 1) = 1;"
                + "tape 'off = 1 and which = 2'; rule(1); told(0, 0, 1) = 2; tape 'off > 1'; rule(1); told(0, 0, 1) = -1");
        due.says(0, "doubt: its DOUBT; days: n; which: 0, 1, 2.");
        due.run(AT_SEA + "tape 'doubt = 1'; rule(1); told(0, 0, 1) = 0; tape 'doubt = 3'; rule(1); told(0, 0, 1) = 1;"
                + "tape 'doubt = 4'; rule(1); told(0, 0, 1) = 2; tape 'days = 5'; rule(1); told(0, 0, 1) = 0;"
                + "tape 'which = 2'; rule(1); told(0, 0, 1) = 2; tape 'which > 2'; rule(1); told(0, 0, 1) = -1");
        // BACK with ERRORS as at START: TIMES 50, 60, 15
        due.run(AT_SEA + "back(0, 20, -10, 100); tape 'days = 5 and which'; rule(1); told(0, 0, 1) = 1;"
                + "tape 'off = 13'; rule(1); told(0, 0, 1) = 0; tape 'off = 28'; rule(1); told(0, 0, 1) = 1;"
                + "tape 'off = 40'; rule(1); told(0, 0, 1) = 2; tape 'off = 57'; rule(1); told(0, 0, 1) = -1;"
                + "tape 'off'; rule(1); told(0, 0, 1) = 2; tape 'doubt = 3'; rule(1); told(0, 0, 1) = 1");
    }

    private static void back() {
        due.says(28, "BACK: N.");
        due.run(READY + "sail(0, 0, 1, 2); days(1); back(0, 1, 2, 3) = 1; state(0) = 2; error(0, 3, -1) = 1;"
                + "error(1, 3, -1) = 2; error(2, 3, -1) = 3; holder(0, 3) = -1; holder(0, 2) = 100; away(0) = 1");
        due.run(AT_SEA + "days(100); back(0, 1, 2, 3) = 105; count(3) = 0");
        due.says(0, "ERRORS of the three are told then (COMPARISONS by the OBSERVATORY; none of them is there yet)");
        due.run(READY + "sail(0, 2, 0, 1); days(1); compare(0, 3, 9, 0) = NOT; back(0, 7, 8, 9) = 1; error(2, 3, -1) = 7;"
                + "error(0, 3, -1) = 8; error(1, 3, -1) = 9; off(1, 0, 399, 1); off(2, 0, 399, 1); off(3, 0, 399, 1);"
                + "off(4, 0, 399, 1); off(5, 0, 399, 1); error(2, 3, -1) = 7; compare(2, 3, 9, 0) = NOT;"
                + "rate(2, 2, -1) = -93; rate(0, 2, -1) = -12");
        due.says(0, "HOLDER of each is the office.");
        due.run(AT_SEA + "back(0, 1, 1, 1); holder(0, 7) = -1; holder(1, 7) = -1; holder(2, 7) = -1; holder(0, 6) = 100;"
                + "away(0) = 5; away(1) = 5; away(2) = 5; lend(0, 3) = 1; take(1) = 1");
    }

    private static void backRefused() {
        due.says(28, "BAD (an ERROR beyond); NOT: it is not at sea, SAILED TODAY, or a SIGHT is of a day behind TODAY.");
        due.run(AT_SEA + "back(0, 100001, 0, 0) = BAD; back(0, -100001, 0, 0) = BAD; back(0, 0, 100001, 0) = BAD;"
                + "back(0, 0, -100001, 0) = BAD; back(0, 0, 0, 100001) = BAD; back(0, 0, 0, -100001) = BAD;"
                + "back(0, MIN, 0, 0) = BAD; back(0, 0, MAX, 0) = BAD; back(-1, 0, 0, 0) = BAD; back(5, 0, 0, 0) = BAD;"
                + "back(MIN, 0, 0, 0) = BAD; state(0) = 1; error(0, 7, -1) = VOID; holder(0, 7) = 100;"
                + "back(0, 100000, -100000, 100000) = 5; error(0, 7, -1) = 100000; error(1, 7, -1) = -100000");
        due.run(READY + "back(0, 1, 1, 1) = NOT; back(4, 1, 1, 1) = NOT; back(0, 100001, 0, 0) = BAD; sail(0, 0, 1, 2);"
                + "back(0, 1, 1, 1) = NOT; back(0, 1, 1, 100001) = BAD; state(0) = 1; error(0, 2, -1) = 20;"
                + "back(1, 1, 1, 1) = NOT; days(1); back(0, 1, 1, 1) = 1; back(0, 2, 2, 2) = NOT; error(0, 3, -1) = 1;"
                + "back(0, 0, 0, 100001) = BAD; days(1); back(0, 2, 2, 2) = NOT; error(0, 4, -1) = VOID");
        due.run(AT_SEA + "back(0, 1, 1, 1) = 5; back(0, 50, 60, 70) = NOT; told(0, 0, 4) = 69; days(3);"
                + "back(0, 50, 60, 70) = NOT; back(0, 100001, 60, 70) = BAD; told(0, 0, 4) = 69; told(0, 0, 7) = 5");
    }

    private static void backTimes() {
        due.says(0, "less n times (that ERROR less START) divided by N, rounded down;");
        // N 7; ERROR less START 11, -90, 99900; n 1, 5, 7
        String three = READY + "sail(0, 0, 1, 2); days(7); sight(0, 3, 0, 0, 0); sight(0, 7, 0, 0, 0); sight(0, 9, 0, 0, 0);";
        due.run(three + "told(0, 0, 4) = -30; told(0, 0, 5) = 18; back(0, 31, -100, 100000) = 7; told(0, 0, 4) = -21;"
                + "told(0, 0, 5) = 23; told(0, 0, 6) = -14371; told(0, 1, 4) = -27; told(0, 1, 5) = 75;"
                + "told(0, 2, 4) = -31; told(0, 2, 5) = 100; told(0, 2, 6) = -100000");
        due.says(0, "WIDTH: DOUBT times the lesser one of n and N - n, and 5.");
        due.run(three + "told(0, 0, 8) = 8; told(0, 1, 8) = 20; told(0, 2, 8) = 26; back(0, 31, -100, 100000);"
                + "told(0, 0, 7) = 6; told(0, 0, 8) = 8; told(0, 0, 9) = 9; told(0, 1, 7) = 7; told(0, 1, 8) = 11;"
                + "told(0, 1, 9) = 13; told(0, 2, 7) = 5; told(0, 2, 8) = 5; told(0, 2, 9) = 5");
        due.run(READY + "sail(0, 0, 1, 2); days(6); sight(0, 4, 0, 0, 0); sight(0, 5, 0, 0, 0); sight(0, 6, 0, 0, 0);"
                + "back(0, 20, -10, 100) = 6; told(0, 0, 9) = 13; told(0, 1, 9) = 17; told(0, 2, 9) = 13;"
                + "told(0, 0, 2) = VOID; told(0, 1, 4) = -20");
        due.run(READY + "sail(0, 0, 1, 2); days(1); sight(0, 3, 20, -10, 100); back(0, 20, -10, 100) = 1;"
                + "told(0, 0, 2) = -5; told(0, 0, 3) = 5; told(0, 0, 7) = 5");
        due.says(0, "BACK on a later day (TODAY), N days since it SAILED");
        due.run(three + "back(0, 31, -100, 100000); days(3); told(0, 0, 8) = 8; told(0, 0, 5) = 23; take(1); take(0);"
                + "told(0, 0, 5) = 23; told(0, 2, 9) = 5");
    }

    private static void newVoyage() {
        due.says(0, "a new voyage begins without any.");
        due.run(AT_SEA + "back(0, 70, -50, 100); sail(0, 2, 1, 0) = 1; told(0, 0, 0) = VOID; state(0) = 1;"
                + "carried(0, 0, 0) = 2; carried(0, 0, 1) = 100; sight(0, 7, 0, 0, 0) = BAD; back(0, 1, 1, 1) = NOT;"
                + "days(1); sight(0, 8, 100, -58, 80) = 0; told(0, 0, 0) = 8; told(0, 1, 0) = VOID; told(0, 0, 7) = 9;"
                + "told(0, 0, 4) = 0; told(0, 0, 5) = 0; back(0, 100, -50, 70) = 1; told(0, 0, 7) = 5");
        StringBuilder many = new StringBuilder(READY + "sail(0, 0, 1, 2); days(1);");
        for (int i = 0; i < 40; i++) {
            many.append("sight(0, 3, 0, 0, 0) = " + i + ";");
        }
        due.run(many + "sight(0, 3, 0, 0, 0) = FULL; back(0, 30, -20, 100); sail(0, 0, 1, 2) = 1; days(1);"
                + "sight(0, 4, 0, 0, 0) = 0; told(0, 1, 0) = VOID; told(0, 39, 0) = VOID");
    }

    private static void state() {
        due.says(29, "0: the SHIP never SAILED, 1: it is at sea, 2: it is BACK. BAD.");
        due.run(READY + "state(-1) = BAD; state(5) = BAD; state(MIN) = BAD; state(MAX) = BAD; state(0) = 0; state(4) = 0;"
                + "sail(2, 0, 1, 4) = MISSING; state(2) = 0; sail(2, 0, 1, 2); state(2) = 1; state(1) = 0; state(3) = 0;"
                + "days(1); state(2) = 1; back(2, 30, -20, 100); state(2) = 2; sail(2, 0, 1, 2) = 1; state(2) = 1");
    }
}

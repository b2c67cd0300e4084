/** The sentences of the document that name a boundary case, of promises 1 to 7. */
public final class ShelfEdgesTest {
    private static final Due due = new Due("ShelfEdgesTest");

    public static void main(String[] args) {
        manyCalls();
        newObject();
        days();
        warmth();
        places();
        boxes();
        put();
        take();
        holdsAndRead();
        due.end();
    }

    private static void manyCalls() {
        due.says(0, "An object is used for at most 512 calls after it has been made");
        SeaWatches x = new SeaWatches();
        x.put(0, 0, 0);
        for (int i = 1; i <= 255; i++) {
            due.is("lend, call " + 2 * i, x.lend(0, i % 20), 1);
            due.is("home, call " + (2 * i + 1), x.home(0), 1);
        }
        due.is("the 512th call", x.holder(0, 0), -1);
        SeaWatches y = new SeaWatches();
        for (int i = 0; i < 99; i++) {
            y.put(i % 16, i % 2, 0);
            y.days(i % 4 + 1);
            y.compare(i % 16, y.count(1), i, 0);
            y.take(i % 16);
        }
        due.is("the 496th call", y.count(1), 99 / 4 * 10 + 1 + 2 + 3);
        due.is("the 497th call", y.count(0), 0);
    }

    private static void newObject() {
        due.says(1, "TODAY 0, an empty SHELF, no rules.");
        StringBuilder empty = new StringBuilder("count(1) = 0; count(0) = 0; count(5) = 0; count(2) = 0; count(3) = 0;"
                + "count(4) = 0; count(6) = 0; dealt(0) = VOID;");
        for (int place = 0; place < 16; place++) {
            empty.append("holds(" + place + ") = -5; read(" + place + ") = VOID; take(" + place + ") = MISSING;");
        }
        for (int ship = 0; ship < 5; ship++) {
            empty.append("state(" + ship + ") = 0; carried(" + ship + ", 0, 0) = VOID; told(" + ship + ", 0, 0) = VOID;");
        }
        due.run(empty.toString());
        due.run("put(0, 0, 0); days(1); compare(0, 0, 0, 0); compare(0, 1, 5, 0); rate(0, 0, -1) = 5;"
                + "trial(0, 0, 1) = VOID; order(0, 0, 1) = NOT");
        SeaWatches one = new SeaWatches();
        one.put(3, 0, 0);
        one.days(7);
        due.is("another new object has nothing of the first one", new SeaWatches().holds(3), -5);
        due.is("another new object has nothing of the first one", new SeaWatches().count(1), 0);
    }

    private static void days() {
        due.says(2, "n (1 .. 100) days go by: TODAY.");
        due.run("days(1) = 1; days(2) = 3; days(100) = 103; count(1) = 103");
        due.run("days(0) = BAD; count(1) = 0; days(-1) = BAD; count(1) = 0; days(MIN) = BAD; count(1) = 0");
        due.run("days(101) = BAD; count(1) = 0; days(MAX) = BAD; count(1) = 0; days(399) = BAD; count(1) = 0");
        due.says(2, "BAD (also beyond 399).");
        due.run("days(100); days(100); days(100); days(99) = 399; days(1) = BAD; count(1) = 399; days(100) = BAD;"
                + "count(1) = 399");
        due.run("days(100); days(100); days(100); days(100) = BAD; count(1) = 300; days(99) = 399");
        due.run("days(100); days(100); days(100); days(98) = 398; days(2) = BAD; days(1) = 399; days(MAX) = BAD");
        due.says(0, "1 TODAY is a count of days, 0 at first, at most 399.");
        due.run("count(1) = 0; days(1) = 1; days(MIN) = BAD; days(-1) = BAD; count(1) = 1");
    }

    /** On day 3, rates of days 0 to 2 (10, 20, 40) of a watch at 0. */
    private static final String RATES = "put(0, 0, 0); days(3); compare(0, 0, 0, 0); compare(0, 1, 10, 0);"
            + "compare(0, 2, 30, 0); compare(0, 3, 70, 0);";

    private static void warmth() {
        due.says(0, "Each day has a WARMTH (-50 .. 50), or none (at first).");
        due.run(RATES + "law(0, 0, 3) = 0; warmth(0, -50) = 1; law(0, 0, 3) = 1; warmth(1, 50) = 1; law(0, 0, 3) = 2;"
                + "foretold(0, 0, 3, -50, 0) = 10000; foretold(0, 0, 3, 50, 0) = 20000; foretold(0, 0, 3, 0, 0) = 15000");
        due.run(RATES + "warmth(0, -51) = BAD; warmth(0, 51) = BAD; warmth(0, MIN) = BAD; warmth(0, MAX) = BAD;"
                + "law(0, 0, 3) = 0");
        due.run(RATES + "warmth(0, 7); warmth(1, 9); foretold(0, 0, 3, 7, 0) = 10000; warmth(0, 51) = BAD;"
                + "warmth(0, -51) = BAD; foretold(0, 0, 3, 7, 0) = 10000");
        due.says(3, "WARMTH of a day (0 .. 399): 1;");
        due.run(RATES + "warmth(-1, 0) = BAD; warmth(400, 0) = BAD; warmth(MIN, 0) = BAD; warmth(MAX, 0) = BAD;"
                + "warmth(0, 1) = 1; warmth(399, 1) = 1; law(0, 0, 3) = 1");
        due.run(RATES + "warmth(0, 7) = 1; warmth(0, 7) = 1; warmth(0, 9) = 1; warmth(1, 10); law(0, 0, 3) = 2;"
                + "foretold(0, 0, 3, 9, 0) = 10000; foretold(0, 0, 3, 10, 0) = 20000");
        due.run("put(0, 0, 0); warmth(1, 3) = 1; days(2); compare(0, 1, 5, 0); compare(0, 2, 6, 0); law(0, 0, 2) = 1");
        due.says(3, "w -100: it has none.");
        due.run(RATES + "warmth(0, -100) = 1; law(0, 0, 3) = 0; warmth(0, 0) = 1; law(0, 0, 3) = 1;"
                + "warmth(0, -100) = 1; law(0, 0, 3) = 0; terms(0, 0, 3) = NOT");
        due.run(RATES + "warmth(0, 3); warmth(0, -99) = BAD; warmth(0, -101) = BAD; law(0, 0, 3) = 1;"
                + "warmth(400, -100) = BAD; warmth(-1, -100) = BAD; law(0, 0, 3) = 1");
    }

    private static void places() {
        due.says(0, "THE SHELF has PLACES 0 .. 15;");
        StringBuilder full = new StringBuilder();
        for (int place = 0; place < 16; place++) {
            full.append("put(" + place + ", 0, 0) = 1; count(0) = " + (place + 1) + ";");
        }
        due.run(full + "put(16, 0, 0) = BAD; put(0, 0, 0) = NOT; put(15, 0, 0) = NOT; count(0) = 16; holds(15) = 0");
        due.run("put(-1, 0, 0) = BAD; put(16, 0, 0) = BAD; put(MIN, 2, 0) = BAD; put(MAX, 1, 0) = BAD; count(0) = 0;"
                + "count(5) = 0; holds(0) = -5; holds(15) = -5");
        due.run("put(15, 2, 4) = 1; holds(15) = 2; holds(14) = -5; holds(0) = -5; take(15) = 1; holds(15) = -5");
    }

    private static void boxes() {
        due.says(0, "a BOX (it is a WATCH, too; but its WARMTH is its own, -50 .. 50, on each day)");
        String box = "days(3); compare(0, 0, 0, 0); compare(0, 1, 10, 0); compare(0, 2, 30, 0); compare(0, 3, 70, 0);";
        due.run("put(0, 1, -50) = 1; count(0) = 1;" + box + "law(0, 0, 3) = 3; terms(0, 0, 3) = 4;"
                + "warmth(0, 5); warmth(1, 20); warmth(2, 50); terms(0, 0, 3) = 4; warmth(1, -100); law(0, 0, 3) = 3");
        due.run("put(0, 1, 50) = 1;" + box + "tape 'warm + 1'; rule(0) = 1; warmth(0, 5); warmth(1, 20);"
                + "trial(0, 0, 3) = 1");
        due.run("put(0, 1, 51) = BAD; put(0, 1, -51) = BAD; put(0, 1, -100) = BAD; put(0, 1, MIN) = BAD;"
                + "put(0, 1, MAX) = BAD; holds(0) = -5; count(0) = 0");
        due.run("put(0, 1, 0) = 1; read(0) = 0; put(1, 1, -50) = 1; read(1) = -50; put(2, 1, 50) = 1; read(2) = 50");
    }

    private static void put() {
        due.says(4, "A WATCH (kind 0), a BOX (1; w its WARMTH), a GLASS (2; w its number) comes to a PLACE: 1.");
        due.run("put(0, -1, 0) = BAD; put(0, 3, 0) = BAD; put(0, MIN, 0) = BAD; put(0, MAX, 0) = BAD; holds(0) = -5");
        due.run("put(0, 2, 0) = 1; read(0) = 0; put(1, 2, MIN) = 1; read(1) = MIN; put(2, 2, MAX) = 1; read(2) = MAX;"
                + "put(3, 2, -100) = 1; read(3) = -100; put(4, 2, 51) = 1; read(4) = 51; count(5) = 5; count(0) = 0");
        due.says(4, "(w of a WATCH must be 0.)");
        due.run("put(0, 0, 1) = BAD; put(0, 0, -1) = BAD; put(0, 0, MAX) = BAD; put(0, 0, -100) = BAD; holds(0) = -5;"
                + "put(0, 0, 0) = 1; holds(0) = 0");
        due.says(4, "BAD; NOT: the PLACE holds something.");
        due.run("put(0, 0, 0); put(0, 0, 0) = NOT; put(0, 1, 3) = NOT; put(0, 2, 3) = NOT; holds(0) = 0;"
                + "put(0, 0, 1) = BAD; put(0, 3, 0) = BAD; put(0, 1, 51) = BAD; holds(0) = 0");
        due.run("put(1, 1, 7); put(1, 0, 0) = NOT; put(1, 1, 8) = NOT; put(1, 2, 3) = NOT; read(1) = 7; holds(1) = 1");
        due.run("put(2, 2, 7); put(2, 0, 0) = NOT; put(2, 1, 8) = NOT; put(2, 2, 3) = NOT; read(2) = 7; holds(2) = 2;"
                + "take(2) = 1; put(2, 0, 0) = 1; holds(2) = 0");
        due.run("put(0, 0, 0); lend(0, 3); put(0, 0, 0) = NOT; holder(0, 0) = 3");
        due.says(0, "(What comes newly to a PLACE is the office's, from the beginning.)");
        due.run("put(0, 0, 0); days(2); lend(0, 3); days(2); home(0); compare(0, 4, 9, 1); repair(0, 4); late(0, 3);"
                + "take(0) = 1; put(0, 0, 0) = 1; holder(0, 2) = -1; holder(0, 3) = -1; holder(0, 4) = -1; away(0) = 0;"
                + "error(0, 4, -1) = VOID; age(0, 4) = 4; compare(0, 2, 5, 0) = 1; compare(0, 4, 6, 0) = 1;"
                + "repair(0, 4) = 1; late(0, 3) = 1");
        due.run("days(50); put(0, 0, 0); holder(0, 0) = -1; compare(0, 0, 1, 0) = 1; compare(0, 50, 1, 0) = 1");
    }

    private static void take() {
        due.says(5, "A PLACE holds nothing: 1. BAD, MISSING; NOT: a WATCH that is not the office's.");
        due.run("take(-1) = BAD; take(16) = BAD; take(MIN) = BAD; take(MAX) = BAD; take(0) = MISSING; take(15) = MISSING");
        due.run("put(0, 0, 0); put(1, 1, 2); put(15, 2, 3); take(0) = 1; take(0) = MISSING; take(1) = 1; take(15) = 1;"
                + "holds(0) = -5; holds(1) = -5; holds(15) = -5; count(0) = 0; count(5) = 0");
        due.run("put(0, 0, 0); lend(0, 0); take(0) = NOT; holds(0) = 0; holder(0, 0) = 0; home(0); take(0) = 1");
        due.run("put(0, 1, 9); lend(0, 19); days(3); take(0) = NOT; read(0) = 9; home(0); take(0) = 1");
        due.run(ShipEdgesTest.READY + "sail(4, 0, 1, 2); take(0) = NOT; take(1) = NOT; take(2) = NOT; take(3) = 1;"
                + "days(1); take(0) = NOT; back(4, 0, 0, 0); take(0) = 1; holds(0) = -5; state(4) = 2;"
                + "carried(4, 0, 0) = 0");
        due.run("put(0, 0, 0); days(5); lend(0, 2); days(5); home(0); days(1); take(0) = 1");
    }

    private static void holdsAndRead() {
        due.says(6, "What a PLACE holds: -5 nothing, 0, 1, 2 the kind. BAD.");
        due.run("holds(-1) = BAD; holds(16) = BAD; holds(MIN) = BAD; holds(MAX) = BAD; holds(0) = -5; holds(15) = -5");
        due.run("put(0, 0, 0); put(7, 1, 1); put(15, 2, 2); holds(0) = 0; holds(7) = 1; holds(15) = 2; holds(1) = -5;"
                + "lend(0, 1); holds(0) = 0");
        due.says(7, "The number of a GLASS; WARMTH of a BOX. VOID: BAD, MISSING, KIND.");
        due.run("read(-1) = VOID; read(16) = VOID; read(MIN) = VOID; read(MAX) = VOID; read(0) = VOID; read(15) = VOID");
        due.run("put(0, 0, 0); read(0) = VOID; put(1, 1, -50); read(1) = -50; put(2, 2, -7); read(2) = -7; take(1);"
                + "read(1) = VOID; put(1, 1, 4); read(1) = 4; warmth(0, 9); read(1) = 4; lend(1, 2); read(1) = 4;"
                + "take(2); put(2, 0, 0); read(2) = VOID");
    }
}

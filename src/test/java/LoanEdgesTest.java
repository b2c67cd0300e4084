/** The sentences of the document that name a boundary case, of promises 33 to 37. */
public final class LoanEdgesTest {
    private static final Due due = new Due("LoanEdgesTest");

    /** A watch at 0, a box at 1, a glass at 2, nothing at 3; on day 5. */
    private static final String SHELF = "put(0, 0, 0); put(1, 1, 9); put(2, 2, 7); days(5);";

    public static void main(String[] args) {
        lend();
        home();
        holder();
        holderAtTheDaysEnd();
        away();
        count();
        due.end();
    }

    private static void lend() {
        due.says(0, "a WATCH of the office is LENT TODAY to a person 0 .. 19, and comes back.");
        due.run(SHELF + "lend(0, -1) = BAD; lend(0, 20) = BAD; lend(0, 100) = BAD; lend(0, MIN) = BAD; lend(0, MAX) = BAD;"
                + "holder(0, 5) = -1; lend(0, 0) = 1; holder(0, 5) = 0; home(0) = 1; lend(0, 19) = 1; holder(0, 5) = 19;"
                + "home(0) = 1; holder(0, 5) = -1");
        due.says(33, "A WATCH is LENT: 1. BAD, MISSING, KIND; NOT: it is not the office's.");
        due.run(SHELF + "lend(-1, 0) = BAD; lend(16, 0) = BAD; lend(MIN, 0) = BAD; lend(MAX, 0) = BAD; lend(3, 0) = MISSING;"
                + "lend(15, 0) = MISSING; lend(2, 0) = KIND; lend(3, 20) = BAD; lend(2, -1) = BAD; lend(1, 4) = 1;"
                + "lend(1, 4) = NOT; lend(1, 5) = NOT; lend(1, 20) = BAD; holder(1, 5) = 4; days(1); lend(1, 5) = NOT;"
                + "holder(1, 6) = 4; home(1); lend(1, 5) = 1; holder(1, 6) = 5; holder(1, 5) = 4");
        due.run(ShipEdgesTest.AT_SEA + "lend(0, 3) = NOT; lend(2, 3) = NOT; lend(0, 20) = BAD; holder(0, 7) = 100;"
                + "back(0, 1, 1, 1); lend(0, 3) = 1; holder(0, 7) = 3");
    }

    private static void home() {
        due.says(34, "It comes back: 1. BAD, MISSING, KIND; NOT: no person has it.");
        due.run(SHELF + "home(-1) = BAD; home(16) = BAD; home(MIN) = BAD; home(MAX) = BAD; home(3) = MISSING;"
                + "home(15) = MISSING; home(2) = KIND; home(0) = NOT; home(1) = NOT; lend(0, 0); home(0) = 1; home(0) = NOT;"
                + "lend(1, 19); home(1) = 1; home(1) = NOT");
        due.run(ShipEdgesTest.AT_SEA + "home(0) = NOT; home(1) = NOT; home(2) = NOT; holder(0, 7) = 100;"
                + "back(0, 1, 1, 1); home(0) = NOT; holder(0, 7) = -1");
        due.run(SHELF + "lend(0, 4); days(100); home(0) = 1; holder(0, 104) = 4; holder(0, 105) = -1; home(0) = NOT");
    }

    private static void holder() {
        due.says(35, "HOLDER of a WATCH on a day (TODAY or ahead). VOID: BAD, MISSING, KIND.");
        due.run(SHELF + "holder(0, 0) = -1; holder(0, 5) = -1; holder(0, 6) = VOID; holder(0, -1) = VOID;"
                + "holder(0, 400) = VOID; holder(0, MIN) = VOID; holder(0, MAX) = VOID; holder(-1, 0) = VOID;"
                + "holder(16, 0) = VOID; holder(3, 0) = VOID; holder(2, 0) = VOID; holder(1, 5) = -1; lend(0, 3);"
                + "holder(0, 6) = VOID; days(1); holder(0, 6) = 3; holder(0, 7) = VOID");
        due.run("put(0, 0, 0); days(100); days(100); days(100); days(99); holder(0, 399) = -1; lend(0, 2);"
                + "holder(0, 399) = 2; holder(0, 398) = -1; holder(0, 400) = VOID; away(0) = 1");
        due.says(0, "-1 the office, 0 .. 19, 100 and a SHIP.");
        due.run(ShipEdgesTest.READY + "holder(0, 2) = -1; lend(0, 0); holder(0, 2) = 0; home(0); lend(0, 19);"
                + "holder(0, 2) = 19; home(0); sail(0, 0, 1, 2); holder(0, 2) = 100");
        due.run(ShipEdgesTest.READY + "sail(4, 0, 1, 2); holder(0, 2) = 104; days(1); holder(0, 3) = 104;"
                + "back(4, 1, 1, 1); holder(0, 3) = -1; holder(0, 2) = 104");
    }

    private static void holderAtTheDaysEnd() {
        due.says(0, "HOLDER on a day: who had it at that day's end");
        due.run(SHELF + "lend(0, 3); home(0); holder(0, 5) = -1; lend(0, 4); holder(0, 5) = 4; holder(0, 4) = -1; days(2);"
                + "home(0); lend(0, 6); holder(0, 5) = 4; holder(0, 6) = 4; holder(0, 7) = 6; home(0); holder(0, 7) = -1;"
                + "days(1); holder(0, 8) = -1; holder(0, 6) = 4");
        due.run(ShipEdgesTest.READY + "sail(1, 0, 1, 2); days(2); holder(0, 3) = 101; back(1, 40, -30, 100);"
                + "holder(0, 4) = -1; sail(3, 0, 1, 2) = 1; holder(0, 4) = 103; holder(0, 3) = 101; holder(0, 2) = 101;"
                + "holder(0, 1) = -1; away(0) = 3");
    }

    private static void away() {
        due.says(36, "How many days of 0 to TODAY it was not the office's at their ends. BAD, MISSING, KIND.");
        due.run(SHELF + "away(-1) = BAD; away(16) = BAD; away(MIN) = BAD; away(MAX) = BAD; away(3) = MISSING;"
                + "away(15) = MISSING; away(2) = KIND; away(0) = 0; away(1) = 0; lend(0, 3); away(0) = 1; home(0);"
                + "away(0) = 0; lend(0, 3); days(1); away(0) = 2; days(1); away(0) = 3; home(0); away(0) = 2; days(1);"
                + "away(0) = 2; away(1) = 0");
        due.run("put(0, 0, 0); away(0) = 0; lend(0, 3); away(0) = 1; days(100); days(100); days(100); days(99);"
                + "away(0) = 400; home(0); away(0) = 399");
        due.run(ShipEdgesTest.AT_SEA + "away(0) = 6; back(0, 1, 1, 1); away(0) = 5; take(0); away(0) = MISSING;"
                + "put(0, 0, 0); away(0) = 0");
    }

    private static void count() {
        due.says(37, "0 WATCHES on THE SHELF, 1 TODAY, 2 OFFS, 3 SHIPS at sea, 4 bytes on THE TAPE, 5 GLASSES, 6 on THE LIST. BAD.");
        due.run(SHELF + "count(-1) = BAD; count(7) = BAD; count(MIN) = BAD; count(MAX) = BAD; count(0) = 2; count(1) = 5;"
                + "count(2) = 0; count(3) = 0; count(4) = 0; count(5) = 1; count(6) = 0; lend(0, 1); count(0) = 2;"
                + "home(0); take(0); count(0) = 1; take(2); count(5) = 0; put(15, 2, 1); count(5) = 1; off(1, 0, 0, 0);"
                + "count(2) = 1; feed(4, 0); count(4) = 4; rule(0) = -100; count(4) = 0; doubt(1); count(6) = 1; take(1);"
                + "count(0) = 0; put(0, 0, 0); put(15, 0, 0) = NOT; count(0) = 1");
        due.run(ShipEdgesTest.READY + "count(3) = 0; sail(0, 0, 1, 2); count(3) = 1; count(0) = 3; days(1); count(3) = 1;"
                + "back(0, 30, -20, 100); count(3) = 0; sail(4, 0, 1, 2); count(3) = 1");
        StringBuilder two = new StringBuilder();
        for (int place = 0; place < 6; place++) {
            two.append("put(" + place + ", 0, 0);");
        }
        two.append("days(2);");
        for (int place = 0; place < 6; place++) {
            for (int day = 0; day <= 2; day++) {
                two.append("compare(" + place + ", " + day + ", " + day * place + ", 0);");
            }
        }
        due.run(two + "sail(0, 0, 1, 2); count(3) = 1; sail(1, 3, 4, 5); count(3) = 2; sail(2, 3, 4, 0) = NOT;"
                + "count(3) = 2; days(1); back(0, 1, 1, 1); count(3) = 1; holder(3, 3) = 101; count(0) = 6");
    }
}

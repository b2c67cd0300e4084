/** The sentences of the document that name a boundary case, of promises 30 to 32. */
public final class DealEdgesTest {
    private static final Due due = new Due("DealEdgesTest");

    public static void main(String[] args) {
        doubt();
        deal();
        fewer();
        worst();
        dealt();
        firstWay();
        due.end();
    }

    private static String list(int... doubts) {
        StringBuilder calls = new StringBuilder();
        for (int doubt : doubts) {
            calls.append("doubt(" + doubt + ");");
        }
        return calls.toString();
    }

    private static String dealtIs(int... ships) {
        StringBuilder calls = new StringBuilder();
        for (int i = 0; i < ships.length; i++) {
            calls.append("dealt(" + i + ") = " + ships[i] + ";");
        }
        return calls + "dealt(" + ships.length + ") = VOID;";
    }

    private static void doubt() {
        due.says(30, "A DOUBT (1 .. 9999) of a WATCH for a DEAL comes to THE LIST: how many it has. BAD; FULL: 9.");
        due.run("doubt(0) = BAD; doubt(-1) = BAD; doubt(10000) = BAD; doubt(MIN) = BAD; doubt(MAX) = BAD; count(6) = 0;"
                + "doubt(1) = 1; doubt(9999) = 2; count(6) = 2");
        due.run("doubt(1) = 1; doubt(1) = 2; doubt(1) = 3; doubt(1) = 4; doubt(1) = 5; doubt(1) = 6; doubt(1) = 7;"
                + "doubt(1) = 8; doubt(1) = 9; doubt(1) = FULL; doubt(9999) = FULL; doubt(0) = BAD; doubt(10000) = BAD;"
                + "count(6) = 9; deal(1, 1, 1) = 1; count(6) = 0; doubt(4) = 1");
        due.run(list(9, 8, 7, 6, 5, 4, 3, 2, 1) + "doubt(9999) = FULL; doubt(10000) = BAD; doubt(0) = BAD;"
                + "deal(1, 0, 0) = 2");
        due.run(list(5, 6, 7) + "doubt(0) = BAD; doubt(10000) = BAD; doubt(MIN) = BAD; deal(1, 0, 0) = 6");
    }

    private static void deal() {
        due.says(31, "DEAL of THE LIST to SHIPS with days a, b, c (b, c 0: there is none such, none behind it)");
        String nine = list(1, 1, 1, 1, 1, 1, 1, 1, 1);
        due.run(nine + "deal(0, 0, 0) = BAD; deal(0, 1, 0) = BAD; deal(0, 1, 1) = BAD; deal(1, 0, 1) = BAD;"
                + "deal(1, 0, 400) = BAD; count(6) = 9; deal(1, 0, 0) = 1");
        due.run(nine + "deal(1, 1, 0) = 1; dealt(8) = -1; dealt(5) = 1; dealt(6) = -1");
        due.run(nine + "deal(1, 1, 1) = 1; dealt(8) = 2; dealt(5) = 1");
        due.says(0, "for SHIPS with told days (1 .. 3 of these, 1 .. 400 each)");
        due.run(nine + "deal(-1, 0, 0) = BAD; deal(401, 0, 0) = BAD; deal(1, -1, 0) = BAD; deal(1, 401, 0) = BAD;"
                + "deal(1, 1, -1) = BAD; deal(1, 1, 401) = BAD; deal(MIN, 1, 1) = BAD; deal(MAX, 1, 1) = BAD;"
                + "deal(1, MIN, 1) = BAD; deal(1, MAX, 1) = BAD; deal(1, 1, MIN) = BAD; deal(1, 1, MAX) = BAD;"
                + "deal(1, -1, 1) = BAD; count(6) = 9; dealt(0) = VOID; deal(400, 400, 400) = 400");
        due.run(list(1, 9999, 9999) + "deal(400, 0, 0) = 3999600");
        due.run(list(1, 1, 1) + "deal(1, 0, 0) = 1");
        due.says(31, "THE LIST is empty then.");
        due.run(list(1, 2, 3, 4) + "deal(1, 0, 0) = 2; count(6) = 0; deal(1, 0, 0) = NOT; doubt(5) = 1");
    }

    private static void fewer() {
        due.says(31, "NOT: fewer on THE LIST than three for each (it stays).");
        due.run("deal(1, 0, 0) = NOT; doubt(5); deal(1, 0, 0) = NOT; doubt(6); deal(1, 0, 0) = NOT; count(6) = 2;"
                + "deal(0, 0, 0) = BAD; deal(1, 0, 1) = BAD; doubt(7); deal(1, 1, 0) = NOT; deal(1, 1, 1) = NOT;"
                + "count(6) = 3; deal(1, 0, 0) = 6; count(6) = 0");
        due.run(list(1, 2, 3, 4, 5) + "deal(1, 1, 0) = NOT; count(6) = 5; doubt(6) = 6; deal(1, 1, 1) = NOT;"
                + "deal(1, 1, 0) = 4; count(6) = 0");
        due.run(list(1, 2, 3, 4, 5, 6, 7, 8) + "deal(1, 1, 1) = NOT; count(6) = 8; doubt(9) = 9; deal(1, 1, 1) = 6");
        due.run(list(1, 2, 3) + "deal(5, 0, 0) = 10; doubt(8); deal(1, 0, 0) = NOT;" + dealtIs(0, 0, 0));
    }

    private static void worst() {
        due.says(0, "WORST of a SHIP: its days times the second least DOUBT of its three.");
        due.run(list(5, 1, 9) + "deal(10, 0, 0) = 50");
        due.run(list(1, 9, 5) + "deal(10, 0, 0) = 50");
        due.run(list(9, 5, 1) + "deal(10, 0, 0) = 50");
        due.run(list(4, 4, 9) + "deal(10, 0, 0) = 40");
        due.run(list(9, 4, 9) + "deal(10, 0, 0) = 90");
        due.run(list(9999, 9999, 9999) + "deal(400, 0, 0) = 3999600");
        due.says(0, "(three for each SHIP at most needed, 9 at most): each SHIP gets three;");
        due.run(list(9, 8, 7, 6, 5, 4, 3, 2, 1) + "doubt(1) = FULL; deal(2, 3, 4) = 12;"
                + dealtIs(0, 1, 2, 0, 0, 1, 1, 2, 2));
        due.run(list(1, 1, 1, 1, 1, 1, 1, 1) + "deal(1, 1, 0) = 1;" + dealtIs(0, 0, 0, 1, 1, 1, -1, -1));
        due.run(list(1, 1, 1, 1, 1) + "deal(1, 0, 0) = 1;" + dealtIs(0, 0, 0, -1, -1));
        due.says(0, "Of all ways the least of the greatest WORST;");
        due.run(list(1, 2, 3, 4, 9, 9) + "deal(1, 1, 0) = 4; deal(1, 0, 0) = NOT");
        due.run(list(1, 2, 3, 4, 9, 9) + "deal(2, 1, 0) = 4");
        due.run(list(1, 2, 3, 4, 9, 9) + "deal(1, 2, 0) = 4;" + dealtIs(1, 1, 0, 0, 0, 1));
        due.run(list(1, 2, 3, 4, 5, 6, 7, 8, 9) + "deal(1, 1, 1) = 6");
        due.run(list(1, 2, 3, 4, 5, 6, 7, 8, 9) + "deal(3, 2, 1) = 8");
        due.run(list(5, 1, 1) + "deal(3, 0, 0) = 3");
        due.run(list(9, 8, 7, 6, 5, 4, 3, 2, 1) + "deal(3, 0, 0) = 6");
    }

    private static void dealt() {
        due.says(32, "Which SHIP (0, 1, 2) the WATCH at place i of THE LIST got by the latest deal(); -1: none.");
        due.run(list(3, 3, 3, 3) + "deal(1, 0, 0) = 3;" + dealtIs(0, 0, 0, -1));
        due.run(list(3, 3, 3) + "deal(1, 0, 0) = 3;" + dealtIs(0, 0, 0) + list(5, 5, 5, 5, 5, 5) + dealtIs(0, 0, 0)
                + "deal(1, 1, 0) = 5;" + dealtIs(0, 0, 0, 1, 1, 1));
        due.run(list(3, 3, 3, 3, 3, 3, 3) + "deal(1, 1, 0) = 3;" + dealtIs(0, 0, 0, 1, 1, 1, -1) + list(2, 2, 2)
                + "deal(1, 0, 0) = 2;" + dealtIs(0, 0, 0));
        due.says(32, "VOID: none such, or before any.");
        due.run("dealt(0) = VOID; dealt(-1) = VOID; dealt(9) = VOID;" + list(1, 1, 1) + "dealt(0) = VOID;"
                + "deal(1, 1, 0) = NOT; dealt(0) = VOID; deal(401, 0, 0) = BAD; dealt(0) = VOID; deal(1, 0, 0) = 1;"
                + "dealt(0) = 0; dealt(2) = 0; dealt(3) = VOID; dealt(-1) = VOID; dealt(MIN) = VOID; dealt(MAX) = VOID");
        due.run(list(1, 1, 1, 1, 1, 1, 1, 1, 1) + "deal(1, 1, 1) = 1;" + dealtIs(0, 0, 0, 1, 1, 1, 2, 2, 2));
    }

    private static void firstWay() {
        due.says(32, "Of several ways the first: at the first place where they differ the lesser SHIP");
        due.run(list(1, 1, 1, 1, 1, 1) + "deal(1, 1, 0) = 1;" + dealtIs(0, 0, 0, 1, 1, 1));
        due.run(list(9, 1, 9, 1, 9, 1) + "deal(1, 1, 0) = 9;" + dealtIs(0, 0, 0, 1, 1, 1));
        due.run(list(9, 9, 1, 1, 1, 1) + "deal(1, 1, 0) = 1;" + dealtIs(0, 1, 0, 0, 1, 1));
        due.says(32, "none being greater than all.");
        due.run(list(1, 1, 1, 1, 1) + "deal(1, 0, 0) = 1;" + dealtIs(0, 0, 0, -1, -1));
        due.run(list(9, 1, 1, 9) + "deal(1, 0, 0) = 1;" + dealtIs(0, 0, 0, -1));
        due.run(list(9, 9, 1, 1) + "deal(1, 0, 0) = 1;" + dealtIs(0, -1, 0, 0));
        due.run(list(9, 9, 9, 9, 1, 1, 1, 1) + "deal(1, 1, 0) = 1;" + dealtIs(0, 1, -1, -1, 0, 0, 1, 1));
    }
}

/** Promises 20 to 23: the tape, rules as texts, trials and their order. */
public final class RulesTest {
    private static final int VOID = SeaWatches.VOID;
    private static final Due due = new Due("RulesTest");

    public static void main(String[] args) {
        feed();
        rule();
        faults();
        openOnes();
        values();
        names();
        trial();
        order();
        due.end();
    }

    /** Place 0: a watch with rates 3, -4, none, 10, 2 of days 0 to 4; a box at 1; a glass at 2. */
    private static SeaWatches shelf() {
        SeaWatches x = new SeaWatches();
        x.put(0, 0, 0);
        x.put(1, 1, 10);
        x.put(2, 2, 5);
        x.days(8);
        int[] errors = {0, 3, -1, 5000, 5010, 5012};
        for (int day = 0; day < errors.length; day++) {
            x.compare(0, day, errors[day], 0);
        }
        x.warmth(0, -20);
        x.warmth(1, 7);
        x.warmth(2, 50);
        x.warmth(5, -50);
        return x;
    }

    private static int valueOf(String text) {
        SeaWatches x = shelf();
        int answer = Due.rule(x, 0, text);
        return answer == 1 ? x.trial(0, 0, 6) : answer;
    }

    private static void feed() {
        SeaWatches x = new SeaWatches();
        due.is(20, "n 0", x.feed(0, 0), -1);
        due.is(20, "n 5", x.feed(5, 0), -1);
        due.is(20, "n -1", x.feed(-1, 0), -1);
        due.is(20, "n 1", x.feed(1, 'd'), 1);
        due.is(20, "n 3", x.feed(3, 'a' | 'y' << 8 | 's' << 16), 4);
        due.is(20, "one more", x.count(4), 4);
        due.is(20, "lowest first", x.rule(0), 1);
        due.is(20, "empty then", x.count(4), 0);
        due.is(20, "bytes behind n are left away", x.feed(1, '1' | '+' << 8), 1);
        due.is(20, "a number", x.rule(0), 1);
        for (int i = 1; i <= 29; i++) {
            due.is(20, "n 4", x.feed(4, 0x20202020), 4 * i);
        }
        due.is(20, "n 3", x.feed(3, 0x202020), 119);
        due.is(20, "n 2", x.feed(2, 0x2020), -5);
        due.is(20, "BAD ahead of FULL", x.feed(5, 0), -1);
        due.is(20, "nothing came", x.count(4), 119);
        due.is(20, "n 1", x.feed(1, '7'), 120);
        due.is(20, "n 1", x.feed(1, '7'), -5);
        due.is(20, "120 bytes", x.rule(0), 1);
        due.is(20, "a byte beyond 127", x.feed(1, -1), 1);
        due.is(20, "no text begins so", x.rule(0), -100);
    }

    private static void rule() {
        SeaWatches x = shelf();
        Due.feed(x, "sum");
        due.is(21, "which 2", x.rule(2), -1);
        due.is(21, "which -1", x.rule(-1), -1);
        due.is(21, "the tape stays", x.count(4), 3);
        due.is(21, "sum", x.rule(0), 1);
        due.is(21, "the tape is empty", x.count(4), 0);
        due.is(21, "sum", x.trial(0, 0, 6), 11);
        Due.feed(x, "sum +");
        due.is(21, "ends too early", x.rule(0), -105);
        due.is(21, "the tape is empty", x.count(4), 0);
        due.is(21, "the rule that was stays", x.trial(0, 0, 6), 11);
        due.is(21, "an empty tape", x.rule(0), -100);
        due.is(21, "the rule that was stays", x.trial(0, 0, 6), 11);
        due.is(21, "a rule of DROP", Due.rule(x, 1, "days + 1"), 1);
        due.is(21, "the rule that was stays", x.trial(0, 0, 6), 11);
        due.is(21, "a new one", Due.rule(x, 0, "most"), 1);
        due.is(21, "most", x.trial(0, 0, 6), 10);
        for (String name : "days least most span gaps jump drift sum warm".split(" ")) {
            due.is(21, name, Due.rule(x, 0, name), 1);
            due.is(21, name + " for DROP", Due.rule(x, 1, name), name.equals("days") ? 1 : -100);
        }
        for (String name : "off doubt days which".split(" ")) {
            due.is(21, name + " for DROP", Due.rule(x, 1, name), 1);
            due.is(21, name, Due.rule(x, 0, "  " + name), name.equals("days") ? 1 : -102);
        }
    }

    private static void fault(String text, int place) {
        due.is(21, "fault of '" + text + "'", Due.rule(new SeaWatches(), 0, text), -100 - place);
    }

    private static void good(String text) {
        due.is(21, "'" + text + "'", Due.rule(new SeaWatches(), 0, text), 1);
    }

    private static void faults() {
        fault("", 0);
        fault("   ", 3);
        fault("1 + ", 4);
        fault("1 + )", 4);
        fault("1 2", 2);
        fault("days5", 4);
        fault("days sum", 5);
        fault("dayss", 0);
        fault("day", 0);
        fault("1 + sumx * 2", 4);
        fault("123456", 0);
        fault("1+123456", 2);
        fault("1 + 99999 000001", 10);
        fault("Sum", 0);
        fault("suM", 0);
        fault("sumz", 0);
        fault("sum{", 3);
        fault("sum`", 3);
        fault("1:", 1);
        fault("sum$", 3);
        fault("sum\t", 3);
        fault("sum" + (char) 0, 3);
        fault("1 < 2 < 3", 6);
        fault("1 < 2 = 3", 6);
        fault("1 <= 2", 3);
        fault("1 + not 2", 4);
        fault("1 < not 2", 4);
        fault("- not 2", 2);
        fault("abs not 2", 4);
        fault("not", 3);
        fault("not and 1", 4);
        fault("or 1", 0);
        fault("1 or", 4);
        fault("1 and or 1", 6);
        fault("1 orsum", 2);
        fault("notsum", 0);
        fault("abssum", 0);
        fault("(1", 2);
        fault("(1 ", 3);
        fault("()", 1);
        fault("1)", 1);
        fault("(1))", 3);
        fault("* 1", 0);
        fault("+ 1", 0);
        fault("1 */ 2", 3);
        fault("1 not 2", 2);
        fault("1 abs 2", 2);
        fault("1 (2)", 2);
        good("00000");
        good("99999");
        good("1or 2and 3");
        good("not2");
        good("not not(1)");
        good("abs-abs(1)");
        good("2--3");
        good("(1 < 2) < (3 = 4)");
        good("not 1 < 2 and not 3 > 4 or not 5 = 6");
        good("  ( ( sum ) )  ");
    }

    private static void openOnes() {
        good("(".repeat(15) + "1" + ")".repeat(15));
        fault("(".repeat(16) + "1" + ")".repeat(16), 15);
        good("-".repeat(15) + "1");
        fault("-".repeat(16) + "1", 15);
        good("not ".repeat(15) + "1");
        fault("not ".repeat(16) + "1", 60);
        good("abs ".repeat(15) + "1");
        fault("abs ".repeat(16) + "1", 60);
        String mixed = "not (not (abs (";
        good(mixed.repeat(2) + "- - - 1" + ")".repeat(6));
        fault(mixed.repeat(2) + "- - - -1" + ")".repeat(6), 2 * mixed.length() + 6);
        fault(mixed.repeat(2) + "- - - (1" + ")".repeat(7), 2 * mixed.length() + 6);
        fault(mixed.repeat(2) + "---abs 1" + ")".repeat(6), 2 * mixed.length() + 3);
        fault(mixed.repeat(2) + "(((not 1" + ")".repeat(9), 2 * mixed.length() + 3);
        good("(".repeat(15) + "1 - 1" + ")".repeat(15) + " - -1 + (2) - abs(3) and not 4 or not not 5");
        good("(".repeat(14) + "not 1 and not 2" + ")".repeat(14));
        fault("(".repeat(14) + "not not 1" + ")".repeat(14), 18);
        good("-1*-1*-1*-1*-1*-1*-1*-1*-1*-1*-1*-1*-1*-1*-1*-1*-1*-1");
        fault("(".repeat(15) + "x", 15);
        fault("(".repeat(15), 15);
    }

    private static void value(String text, int value) {
        due.is(22, text, valueOf(text), value);
    }

    private static void values() {
        value("7", 7);
        value("00012", 12);
        value("1 + 2 * 3", 7);
        value("(1 + 2) * 3", 9);
        value("10 - 3 - 2", 5);
        value("100 / 7 / 2", 7);
        value("-7 / 2", -3);
        value("7 / -2", -3);
        value("7 / 0", 0);
        value("0 - 7 / (1 - 1)", 0);
        value("2 * 7 / 3 * 5", 20);
        value("abs -7", 7);
        value("abs (3 - 10) * 2", 14);
        value("- 3 * 2", -6);
        value("2 - -3", 5);
        value("1 < 2", 1);
        value("2 < 2", 0);
        value("2 = 2", 1);
        value("2 = 3", 0);
        value("3 > 2", 1);
        value("3 > 3", 0);
        value("1 + 1 = 4 / 2", 1);
        value("5 or 0", 1);
        value("0 or 0", 0);
        value("5 and 7", 1);
        value("5 and 0", 0);
        value("0 and 7", 0);
        value("-1 and 1", 1);
        value("not 5", 0);
        value("not 0", 1);
        value("not not 9", 1);
        value("not 1 = 0", 1);
        value("1 or 0 and 0", 1);
        value("(1 or 0) and 0", 0);
        value("not 0 and 0", 0);
        value("(5 or 0) + (5 and 5)", 2);
        value("99999 * 99999", 99999 * 99999);
        value("99999 * 99999 * 99999 + 99999", 99999 * 99999 * 99999 + 99999);
        value("(0 - 65536 * 32768) / (0 - 1)", Integer.MIN_VALUE);
        value("abs (65536 * 32768)", Integer.MIN_VALUE);
        value("- (65536 * 32768)", Integer.MIN_VALUE);
        value("65536 * 32768 - 1", Integer.MAX_VALUE);
        value("65536 * 32768 < 0", 1);
    }

    private static void names() {
        value("days", 4);
        value("least", -4);
        value("most", 10);
        value("span", 14);
        value("gaps", 2);
        value("jump", 14);
        value("drift", -1);
        value("sum", 11);
        value("warm", 27);
        SeaWatches x = shelf();
        Due.rule(x, 0, "jump * 100 + drift * 10 + warm");
        due.is(22, "one rate with warmth", x.trial(0, 0, 1), 0);
        due.is(22, "rates without warmth", x.trial(0, 3, 5), 8 * 100 - 80);
        due.is(22, "one with, one without", x.trial(0, 1, 4), 14 * 100 + 140);
        x.compare(1, 0, 0, 0);
        x.compare(1, 1, 1, 0);
        x.compare(1, 2, 2, 0);
        due.is(22, "a box is as warm each day", x.trial(1, 0, 3), 0);
    }

    private static void trial() {
        SeaWatches x = shelf();
        due.is(22, "no RULE", x.trial(0, 0, 6), VOID);
        Due.rule(x, 1, "off");
        due.is(22, "no RULE of trials", x.trial(0, 0, 6), VOID);
        Due.rule(x, 0, "days * 100 + gaps");
        due.is(22, "all", x.trial(0, 0, 6), 402);
        due.is(22, "60 days", x.trial(0, 0, 60), 456);
        due.is(22, "day q - 1 at most", x.trial(0, 0, 4), 301);
        due.is(22, "days 3 to 7", x.trial(0, 3, 8), 203);
        due.is(22, "no RATE", x.trial(0, 2, 3), VOID);
        due.is(22, "61 days", x.trial(0, 0, 61), VOID);
        due.is(22, "no days", x.trial(0, 1, 1), VOID);
        due.is(22, "p -1", x.trial(0, -1, 5), VOID);
        due.is(22, "q 400", x.trial(0, 390, 400), VOID);
        due.is(22, "place 16", x.trial(16, 0, 6), VOID);
        due.is(22, "nothing there", x.trial(9, 0, 6), VOID);
        due.is(22, "a glass", x.trial(2, 0, 6), VOID);
        due.is(22, "a box without RATES", x.trial(1, 0, 6), VOID);
    }

    private static void order() {
        SeaWatches x = new SeaWatches();
        x.put(15, 2, 5);
        x.days(3);
        int[] rates = {7, 3, 7, 1};
        for (int place = 0; place < rates.length; place++) {
            x.put(place, place % 2, 0);
            x.compare(place, 0, 0, 1);
            x.compare(place, 1, rates[place], 0);
        }
        x.put(5, 0, 0);
        due.is(23, "no RULE", x.order(0, 0, 3), -4);
        Due.rule(x, 0, "sum");
        due.is(23, "7", x.order(0, 0, 3), 3);
        due.is(23, "3", x.order(1, 0, 3), 2);
        due.is(23, "7", x.order(2, 0, 3), 3);
        due.is(23, "1", x.order(3, 0, 3), 1);
        due.is(23, "no RATE", x.order(5, 0, 3), -4);
        due.is(23, "no RATE of these days", x.order(0, 1, 3), -4);
        due.is(23, "a glass", x.order(15, 0, 3), -3);
        due.is(23, "nothing there", x.order(6, 0, 3), -2);
        due.is(23, "place 16", x.order(16, 0, 3), -1);
        due.is(23, "no days", x.order(0, 3, 3), -1);
        due.is(23, "61 days", x.order(0, 0, 61), -1);
        Due.rule(x, 0, "-sum");
        due.is(23, "-1", x.order(3, 0, 3), 4);
        due.is(23, "-7", x.order(0, 0, 3), 1);
        Due.rule(x, 0, "sum");
        x.lend(3, 1);
        due.is(23, "what is lent counts", x.order(1, 0, 3), 2);
        x.off(1, 0, 0, 10);
        due.is(23, "all as known now", x.order(1, 0, 3), 2);
        Due.rule(x, 0, "-gaps");
        for (int place = 0; place < 4; place++) {
            x.compare(place, 2, rates[place], 0);
        }
        due.is(23, "days 1 to 2, all alike", x.order(0, 1, 3), 1);
        Due.rule(x, 0, "sum");
        x.home(3);
        x.take(3);
        due.is(23, "what is taken does not", x.order(1, 0, 3), 1);
    }
}

/** Promises 24 to 29: ships, their sights, and what they drop. */
public final class ShipsTest {
    private static final int VOID = SeaWatches.VOID;
    private static final Due due = new Due("ShipsTest");

    public static void main(String[] args) {
        sailRefused();
        sailWindow();
        carried();
        sight();
        told();
        dropped();
        back();
        sightsOfAShipThatIsBack();
        state();
        due.end();
    }

    private static void errors(SeaWatches x, int place, int first, int... errors) {
        for (int i = 0; i < errors.length; i++) {
            x.compare(place, first + i, errors[i], 0);
        }
    }

    /** On day 2: watches at 0, 1, a box at 2, each fit to sail; a glass at 3. */
    private static SeaWatches ready() {
        SeaWatches x = new SeaWatches();
        x.put(0, 0, 0);
        x.put(1, 0, 0);
        x.put(2, 1, 5);
        x.put(3, 2, 9);
        x.days(2);
        errors(x, 0, 0, 0, 10, 20);
        errors(x, 1, 0, 5, 0, -10);
        errors(x, 2, 0, 100, 103, 100);
        return x;
    }

    private static void sailRefused() {
        SeaWatches x = ready();
        due.is(24, "ship 5", x.sail(5, 0, 1, 2), -1);
        due.is(24, "ship -1", x.sail(-1, 0, 1, 2), -1);
        due.is(24, "place 16", x.sail(0, 0, 1, 16), -1);
        due.is(24, "place -1", x.sail(0, -1, 1, 2), -1);
        due.is(24, "a and b alike", x.sail(0, 1, 1, 2), -1);
        due.is(24, "a and c alike", x.sail(0, 2, 1, 2), -1);
        due.is(24, "b and c alike", x.sail(0, 0, 1, 1), -1);
        due.is(24, "BAD ahead of MISSING", x.sail(0, 7, 7, 2), -1);
        due.is(24, "nothing there", x.sail(0, 0, 1, 7), -2);
        due.is(24, "a glass", x.sail(0, 0, 3, 2), -3);
        due.is(24, "a first: KIND", x.sail(0, 3, 7, 2), -3);
        due.is(24, "a first: MISSING", x.sail(0, 7, 3, 2), -2);
        due.is(24, "b ahead of c", x.sail(0, 0, 3, 7), -3);
        x.lend(1, 4);
        due.is(24, "not the office's", x.sail(0, 0, 1, 2), -4);
        due.is(24, "nothing changed", x.holder(0, 2), -1);
        due.is(24, "nothing changed", x.state(0), 0);
        x.home(1);
        x.late(2, 1);
        due.is(24, "no rate is left", x.sail(0, 0, 1, 2), -4);
        SeaWatches y = ready();
        y.late(0, 0);
        due.is(24, "one rate alone", y.sail(0, 0, 1, 2), -4);
        SeaWatches z = ready();
        z.days(1);
        due.is(24, "no comparison TODAY", z.sail(0, 0, 1, 2), -4);
        errors(z, 0, 3, 30);
        errors(z, 1, 3, 30);
        due.is(24, "one has none TODAY", z.sail(0, 0, 1, 2), -4);
        errors(z, 2, 3, 30);
        due.is(24, "all have one", z.sail(0, 0, 1, 2), 1);
        due.is(24, "it is at sea", z.sail(0, 0, 1, 2), -4);
        due.is(24, "MISSING ahead of NOT", z.sail(0, 0, 1, 8), -2);
        due.is(24, "holder", z.holder(2, 3), 100);
        due.is(24, "TODAY 0", new SeaWatches().sail(0, 0, 1, 2), -2);
    }

    /** The 30 days ahead of TODAY are TODAY - 30 to TODAY - 1. */
    private static void sailWindow() {
        for (int today = 30; today <= 33; today++) {
            SeaWatches x = new SeaWatches();
            for (int place = 0; place < 3; place++) {
                x.put(place, 0, 0);
            }
            x.days(today);
            for (int place = 0; place < 3; place++) {
                errors(x, place, 0, 0, 100, 200, 300);
                errors(x, place, today - 1, 0, 7);
            }
            // rates of days 0, 1, 2 and of TODAY - 1
            due.is(24, "TODAY " + today, x.sail(4, 2, 0, 1), today <= 32 ? 1 : -4);
            int[] goings = {76, 69, 53, VOID};
            due.is(25, "GOING", x.carried(4, 0, 2), goings[today - 30]);
        }
    }

    private static void carried() {
        SeaWatches x = ready();
        due.is(25, "never sailed", x.carried(1, 0, 0), VOID);
        x.off(1, 0, 399, 3);
        due.is(24, "sail", x.sail(1, 2, 0, 1), 1);
        due.is(25, "PLACE", x.carried(1, 0, 0), 2);
        due.is(25, "PLACE", x.carried(1, 1, 0), 0);
        due.is(25, "PLACE", x.carried(1, 2, 0), 1);
        due.is(25, "START", x.carried(1, 0, 1), 100);
        due.is(25, "START", x.carried(1, 1, 1), 20);
        due.is(25, "START", x.carried(1, 2, 1), -10);
        due.is(25, "GOING", x.carried(1, 0, 2), 0);
        due.is(25, "GOING", x.carried(1, 1, 2), 10);
        due.is(25, "GOING, down", x.carried(1, 2, 2), -8);
        due.is(25, "DOUBT", x.carried(1, 0, 3), 4);
        due.is(25, "DOUBT", x.carried(1, 1, 3), 1);
        due.is(25, "DOUBT, the rest away", x.carried(1, 2, 3), 3);
        due.is(25, "what 4", x.carried(1, 0, 4), VOID);
        due.is(25, "what -1", x.carried(1, 0, -1), VOID);
        due.is(25, "i 3", x.carried(1, 3, 0), VOID);
        due.is(25, "i -1", x.carried(1, -1, 0), VOID);
        due.is(25, "ship 5", x.carried(5, 0, 0), VOID);
        due.is(25, "ship -1", x.carried(-1, 0, 0), VOID);
        due.is(25, "another ship", x.carried(0, 0, 0), VOID);
        SeaWatches y = new SeaWatches();
        for (int place = 0; place < 3; place++) {
            y.put(place, 0, 0);
        }
        y.days(2);
        for (int place = 0; place < 3; place++) {
            for (int day = 0; day < 3; day++) {
                y.compare(place, day, 10 * day, 1);
            }
        }
        y.off(1, 2, 2, 4);
        y.sail(0, 0, 1, 2);
        y.off(1, 2, 2, 100);
        due.is(25, "START is kept", y.carried(0, 0, 1), 16);
        due.is(25, "GOING is kept", y.carried(0, 0, 2), 8);
        due.is(25, "DOUBT is kept", y.carried(0, 0, 3), 3);
    }

    private static void sight() {
        SeaWatches x = ready();
        due.is(26, "never sailed", x.sight(0, 2, 0, 0, 0), -4);
        due.is(26, "never sailed, behind TODAY", x.sight(0, 3, 0, 0, 0), -1);
        x.sail(0, 0, 1, 2);
        due.is(26, "the day it sailed", x.sight(0, 2, 0, 0, 0), -1);
        due.is(26, "behind TODAY", x.sight(0, 3, 0, 0, 0), -1);
        x.days(10);
        due.is(26, "ahead of it", x.sight(0, 1, 0, 0, 0), -1);
        due.is(26, "the day it sailed", x.sight(0, 2, 0, 0, 0), -1);
        due.is(26, "a beyond", x.sight(0, 3, 2000001, 0, 0), -1);
        due.is(26, "b beyond", x.sight(0, 3, 0, -2000001, 0), -1);
        due.is(26, "c beyond", x.sight(0, 3, 0, 0, Integer.MIN_VALUE), -1);
        due.is(26, "ship 5", x.sight(5, 3, 0, 0, 0), -1);
        due.is(26, "first", x.sight(0, 3, 2000000, -2000000, 0), 0);
        due.is(26, "that day again", x.sight(0, 3, 1, 2, 3), 1);
        due.is(26, "later", x.sight(0, 11, 1, 2, 3), 2);
        due.is(26, "ahead of the latest", x.sight(0, 10, 1, 2, 3), -1);
        due.is(26, "behind TODAY", x.sight(0, 13, 1, 2, 3), -1);
        for (int i = 3; i < 40; i++) {
            due.is(26, "more", x.sight(0, 12, i, i, i), i);
        }
        due.is(26, "BAD ahead of FULL", x.sight(0, 11, 1, 2, 3), -1);
        due.is(26, "full", x.sight(0, 12, 1, 2, 3), -5);
        due.is(26, "the last one", x.told(0, 39, 0), 12);
        due.is(26, "no 40th", x.told(0, 40, 0), VOID);
        due.is(26, "BAD ahead of NOT", x.sight(1, 13, 0, 0, 0), -1);
        due.is(26, "another ship", x.sight(1, 12, 0, 0, 0), -4);
    }

    private static void told() {
        SeaWatches x = ready();
        x.sail(3, 0, 1, 2);
        // START 20, -10, 100; GOING 10, -8, 0; DOUBT 1, 3, 4
        x.days(5);
        due.is(27, "no sight", x.told(3, 0, 0), VOID);
        x.sight(3, 6, 80, -25, 110);
        due.is(27, "day", x.told(3, 0, 0), 6);
        due.is(27, "none is dropped", x.told(3, 0, 1), -1);
        due.is(27, "TIME", x.told(3, 0, 4), 20);
        due.is(27, "TIME", x.told(3, 0, 5), 17);
        due.is(27, "TIME", x.told(3, 0, 6), 10);
        due.is(27, "WIDTH", x.told(3, 0, 7), 9);
        due.is(27, "WIDTH", x.told(3, 0, 8), 17);
        due.is(27, "WIDTH", x.told(3, 0, 9), 21);
        // 11 to 29, 0 to 34, -11 to 31
        due.is(27, "begin", x.told(3, 0, 2), 11);
        due.is(27, "end", x.told(3, 0, 3), 29);
        due.is(27, "what 10", x.told(3, 0, 10), VOID);
        due.is(27, "what -1", x.told(3, 0, -1), VOID);
        due.is(27, "sight 1", x.told(3, 1, 0), VOID);
        due.is(27, "sight -1", x.told(3, -1, 0), VOID);
        due.is(27, "ship 5", x.told(5, 0, 0), VOID);
        due.is(27, "ship -1", x.told(-1, 0, 0), VOID);
        due.is(27, "never sailed", x.told(0, 0, 0), VOID);
        // day 7: widths 10, 20, 25; spans end where the next begins, and one behind
        x.sight(3, 7, 70, -50 + 30, 100 + 15);
        due.is(27, "TIMES", x.told(3, 1, 4), 0);
        due.is(27, "TIMES", x.told(3, 1, 5), 30);
        due.is(27, "one point alone, begin", x.told(3, 1, 2), 10);
        due.is(27, "one point alone, end", x.told(3, 1, 3), 10);
        x.sight(3, 7, 70, -50 + 31, 100 + 15);
        due.is(27, "EMPTY", x.told(3, 2, 2), VOID);
        due.is(27, "EMPTY", x.told(3, 2, 3), VOID);
    }

    private static void dropped() {
        SeaWatches x = ready();
        x.sail(3, 0, 1, 2);
        x.days(5);
        x.sight(3, 7, 70, -50 + 100, 100 + 15);
        // TIMES 0, 100, 15; off: |0 - 57|, |100 - 7|, |15 - 50|; DOUBT 1, 3, 4; n 5
        due.is(27, "without a rule", x.told(3, 0, 1), -1);
        due.is(27, "EMPTY", x.told(3, 0, 2), VOID);
        drop(x, "off", 1);
        due.is(27, "begin of the others", x.told(3, 0, 2), -10);
        due.is(27, "end of the others", x.told(3, 0, 3), 10);
        drop(x, "off = 57", 0);
        drop(x, "off = 93", 1);
        drop(x, "off = 35", 2);
        drop(x, "doubt", 2);
        drop(x, "-doubt", -1);
        drop(x, "5 - doubt", 0);
        drop(x, "which", 2);
        drop(x, "which = 1", 1);
        drop(x, "days = 5", 0);
        drop(x, "days - 5", -1);
        drop(x, "off - 93", -1);
        drop(x, "off - 92", 1);
        drop(x, "which > 0", 1);
        due.is(21, "a fault", Due.rule(x, 1, "sum"), -100);
        due.is(27, "the rule that was stays", x.told(3, 0, 1), 1);
        // TIMES -1, 0, 0 and 0, 0, -1: the mean is rounded down
        x.sight(3, 7, 69, -50, 100);
        drop(x, 1, "off = 1 and which = 1", 1);
        drop(x, 1, "off = 1 and which = 2", 2);
        drop(x, 1, "off > 1", -1);
        x.back(3, 100, 10, 0);
        // N 5, n 5: TIMES 69 - 100, -50 - 10, 100
        drop(x, 1, "off = 51", 0);
        drop(x, 1, "off = 94", 1);
        drop(x, 1, "off = 146", 2);
        drop(x, 1, "days = 5 and which", 1);
    }

    private static void drop(SeaWatches x, String rule, int which) {
        drop(x, 0, rule, which);
    }

    private static void drop(SeaWatches x, int sight, String rule, int which) {
        due.is(21, rule, Due.rule(x, 1, rule), 1);
        due.is(27, "dropped by " + rule, x.told(3, sight, 1), which);
    }

    private static void back() {
        SeaWatches x = ready();
        due.is(28, "never sailed", x.back(0, 0, 0, 0), -4);
        x.sail(0, 0, 1, 2);
        due.is(28, "sailed TODAY", x.back(0, 0, 0, 0), -4);
        x.days(3);
        x.sight(0, 3, 0, 0, 0);
        x.days(4);
        x.sight(0, 7, 0, 0, 0);
        x.sight(0, 9, 0, 0, 0);
        due.is(28, "ship 5", x.back(5, 0, 0, 0), -1);
        due.is(28, "a beyond", x.back(0, 100001, 0, 0), -1);
        due.is(28, "b beyond", x.back(0, 0, -100001, 0), -1);
        due.is(28, "c beyond", x.back(0, 0, 0, 100001), -1);
        due.is(28, "still at sea", x.state(0), 1);
        due.is(28, "no comparison at sea", x.compare(0, 9, 0, 0), -4);
        due.is(28, "one ahead of it", x.compare(0, 2, 0, 0), -4);
        due.is(28, "N", x.back(0, 31, -100, 100000), 7);
        due.is(28, "is back", x.back(0, 31, -100, 100000), -4);
        due.is(28, "comparison", x.error(0, 9, -1), 31);
        due.is(28, "comparison", x.error(1, 9, -1), -100);
        due.is(28, "comparison", x.error(2, 9, -1), 100000);
        due.is(28, "there is one", x.compare(0, 9, 0, 0), -4);
        for (int signal = 1; signal <= 5; signal++) {
            x.off(signal, 0, 399, 50);
        }
        due.is(28, "by the observatory", x.error(0, 9, -1), 31);
        due.is(28, "holder", x.holder(0, 9), -1);
        due.is(28, "holder", x.holder(0, 8), 100);
        due.is(28, "holder", x.holder(0, 2), 100);
        due.is(28, "holder", x.holder(0, 1), -1);
        due.is(36, "away", x.away(1), 7);
        // n 1, 5, 7 of N 7; error less START 11, -90, 99900
        due.is(27, "TIME", x.told(0, 0, 4), -20 - 1);
        due.is(27, "TIME, down", x.told(0, 0, 5), 10 + 13);
        due.is(27, "TIME", x.told(0, 0, 6), -100 - 14271);
        due.is(27, "TIME", x.told(0, 1, 4), -20 - 7);
        due.is(27, "TIME, down", x.told(0, 1, 5), 10 + 65);
        due.is(27, "TIME", x.told(0, 2, 4), -31);
        due.is(27, "WIDTH", x.told(0, 0, 8), 3 + 5);
        due.is(27, "WIDTH", x.told(0, 1, 8), 6 + 5);
        due.is(27, "WIDTH", x.told(0, 2, 8), 5);
        due.is(25, "carried stays", x.carried(0, 1, 2), -8);
    }

    private static void sightsOfAShipThatIsBack() {
        SeaWatches x = ready();
        x.sail(0, 0, 1, 2);
        x.days(5);
        x.sight(0, 5, 1, 1, 1);
        x.back(0, 70, -50, 100);
        due.is(26, "it is back", x.sight(0, 7, 0, 0, 0), -4);
        due.is(26, "behind TODAY", x.sight(0, 8, 0, 0, 0), -1);
        due.is(26, "the day it sailed", x.sight(0, 2, 0, 0, 0), -1);
        due.is(26, "ahead of its latest sight", x.sight(0, 4, 0, 0, 0), -1);
        due.is(27, "the sight stays", x.told(0, 0, 0), 5);
        x.off(1, 0, 399, 1);
        x.take(1);
        due.is(27, "also when its watch is taken", x.told(0, 0, 5), 1 + 10 + 24);
        x.put(1, 0, 0);
        due.is(24, "a new watch", x.sail(0, 0, 1, 2), -4);
        due.is(24, "the others alone", x.sail(0, 0, 2, 1), -4);
        x.days(1);
        for (int place = 0; place < 3; place++) {
            x.compare(place, 8, 100, 0);
        }
        errors(x, 1, 6, 98, 99);
        due.is(24, "rates of days 0, 1 and 7", x.sail(0, 2, 1, 0), 1);
        due.is(27, "a new voyage begins without any", x.told(0, 0, 0), VOID);
        due.is(25, "PLACE", x.carried(0, 0, 0), 2);
        due.is(26, "the sights of the old one are gone", x.sight(0, 8, 0, 0, 0), -1);
        x.days(1);
        due.is(26, "first of the new voyage", x.sight(0, 9, 0, 0, 0), 0);
        due.is(27, "at sea again, WIDTH", x.told(0, 0, 7), 4 + 5);
        due.is(27, "at sea again, TIME by GOING", x.told(0, 0, 4), -100 - x.carried(0, 0, 2));
        due.is(28, "N 1", x.back(0, 150, 100, 100), 1);
        due.is(27, "back, TIME by the ERROR", x.told(0, 0, 4), -150);
        due.is(27, "back, WIDTH", x.told(0, 0, 7), 5);
    }

    private static void state() {
        SeaWatches x = ready();
        due.is(29, "ship 5", x.state(5), -1);
        due.is(29, "ship -1", x.state(-1), -1);
        due.is(29, "never sailed", x.state(4), 0);
        x.sail(4, 0, 1, 2);
        due.is(29, "at sea", x.state(4), 1);
        due.is(37, "ships at sea", x.count(3), 1);
        x.days(1);
        x.back(4, 0, 0, 0);
        due.is(29, "back", x.state(4), 2);
        due.is(37, "ships at sea", x.count(3), 0);
        due.is(29, "another", x.state(3), 0);
    }
}

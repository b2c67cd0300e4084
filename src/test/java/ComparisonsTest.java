/** Promises 8 to 15: comparisons, signals found off, rates, ages. */
public final class ComparisonsTest {
    private static final int VOID = SeaWatches.VOID;
    private static final Due due = new Due("ComparisonsTest");

    public static void main(String[] args) {
        compare();
        error();
        rate();
        repairAndLate();
        age();
        off();
        changed();
        due.end();
    }

    private static SeaWatches shelf(int today) {
        SeaWatches x = new SeaWatches();
        x.put(0, 0, 0);
        x.put(1, 1, 10);
        x.put(2, 2, 5);
        if (today > 0) {
            x.days(today);
        }
        return x;
    }

    private static void compare() {
        SeaWatches x = shelf(3);
        due.is(8, "place -1", x.compare(-1, 0, 0, 0), -1);
        due.is(8, "place 16", x.compare(16, 0, 0, 0), -1);
        due.is(8, "day -1", x.compare(0, -1, 0, 0), -1);
        due.is(8, "day behind TODAY", x.compare(0, 4, 0, 0), -1);
        due.is(8, "error 100001", x.compare(0, 0, 100001, 0), -1);
        due.is(8, "error -100001", x.compare(0, 0, -100001, 0), -1);
        due.is(8, "source -1", x.compare(0, 0, 0, -1), -1);
        due.is(8, "source 6", x.compare(0, 0, 0, 6), -1);
        due.is(8, "BAD ahead of MISSING", x.compare(5, 0, 0, 6), -1);
        due.is(8, "BAD ahead of KIND", x.compare(2, 4, 0, 0), -1);
        due.is(8, "nothing there", x.compare(5, 0, 0, 0), -2);
        due.is(8, "a glass", x.compare(2, 0, 0, 0), -3);
        due.is(8, "TODAY, source 5", x.compare(0, 3, 100000, 5), 1);
        due.is(8, "a box, day 0", x.compare(1, 0, -100000, 0), 1);
        due.is(8, "one a day", x.compare(0, 3, 4, 1), -4);
        due.is(8, "what was told stays", x.error(0, 3, -1), 100000);
        x.lend(0, 7);
        x.days(2);
        x.home(0);
        due.is(8, "day 2, the office's", x.compare(0, 2, 1, 0), 1);
        due.is(8, "day 4, a person's", x.compare(0, 4, 1, 0), -4);
        due.is(8, "day 5, the office's again", x.compare(0, 5, 1, 0), 1);
    }

    private static void error() {
        SeaWatches x = shelf(5);
        x.compare(0, 2, 50, 3);
        x.compare(0, 3, 60, 0);
        due.is(9, "as told", x.error(0, 2, -1), 50);
        due.is(9, "none", x.error(0, 4, -1), VOID);
        due.is(9, "off 1", x.off(3, 2, 2, 7), 1);
        x.days(1);
        due.is(9, "off 2", x.off(3, 0, 399, -100), 2);
        due.is(9, "off of another signal", x.off(2, 0, 399, 5), 3);
        due.is(9, "off of other days", x.off(3, 3, 5, 1000), 4);
        due.is(9, "off of other days", x.off(3, 0, 1, 1000), 5);
        due.is(9, "by now", x.error(0, 2, -1), 143);
        due.is(9, "on day 4", x.error(0, 2, 4), 50);
        due.is(9, "on day 5", x.error(0, 2, 5), 43);
        due.is(9, "on day 6", x.error(0, 2, 6), 143);
        due.is(9, "on day 399", x.error(0, 2, 399), 143);
        due.is(9, "the observatory is never off", x.error(0, 3, -1), 60);
        due.is(9, "k -2", x.error(0, 2, -2), VOID);
        due.is(9, "k 400", x.error(0, 2, 400), VOID);
        due.is(9, "day -1", x.error(0, -1, -1), VOID);
        due.is(9, "day 400", x.error(0, 400, -1), VOID);
        due.is(9, "place 16", x.error(16, 2, -1), VOID);
        due.is(9, "nothing there", x.error(4, 2, -1), VOID);
        due.is(9, "a glass", x.error(2, 2, -1), VOID);
        x.compare(1, 2, 80, 3);
        due.is(9, "a comparison counts whenever it was told", x.error(1, 2, 0), 80);
    }

    private static void rate() {
        SeaWatches x = shelf(20);
        int[] errors = {0, 999, -1, 0, 999, 1999, 5, 6, 8, 11};
        for (int day = 0; day < errors.length; day++) {
            x.compare(0, day, errors[day], 1);
        }
        x.compare(0, 11, 20, 0);
        due.is(10, "999", x.rate(0, 0, -1), 999);
        due.is(10, "-1000", x.rate(0, 1, -1), VOID);
        due.is(10, "1", x.rate(0, 2, -1), 1);
        due.is(10, "999", x.rate(0, 3, -1), 999);
        due.is(10, "1000", x.rate(0, 4, -1), VOID);
        due.is(10, "-1994", x.rate(0, 5, -1), VOID);
        due.is(10, "none on d + 1", x.rate(0, 9, -1), VOID);
        due.is(10, "none on d", x.rate(0, 10, -1), VOID);
        due.is(10, "day 399", x.rate(0, 399, -1), VOID);
        due.is(10, "day 400", x.rate(0, 400, -1), VOID);
        due.is(10, "day -1", x.rate(0, -1, -1), VOID);
        due.is(10, "greatest int", x.rate(0, Integer.MAX_VALUE, -1), VOID);
        due.is(10, "k -2", x.rate(0, 0, -2), VOID);
        due.is(10, "k 400", x.rate(0, 0, 400), VOID);
        due.is(10, "nothing there", x.rate(9, 0, -1), VOID);
        due.is(10, "a glass", x.rate(2, 0, -1), VOID);
        x.days(1);
        x.off(1, 2, 2, -1);
        due.is(10, "-999 as known now", x.rate(0, 1, -1), -999);
        due.is(10, "none as known on day 20", x.rate(0, 1, 20), VOID);
        due.is(10, "0 as known now", x.rate(0, 2, -1), 0);
        x.repair(0, 7);
        due.is(10, "repaired on d + 1", x.rate(0, 6, -1), VOID);
        due.is(10, "repaired on d", x.rate(0, 7, -1), 2);
        x.late(0, 8);
        due.is(10, "wound late on d + 1", x.rate(0, 7, -1), VOID);
        due.is(10, "wound late on d", x.rate(0, 8, -1), VOID);
    }

    private static void repairAndLate() {
        SeaWatches x = shelf(6);
        due.is(11, "day behind TODAY", x.repair(0, 7), -1);
        due.is(11, "day -1", x.repair(0, -1), -1);
        due.is(11, "place 16", x.repair(16, 0), -1);
        due.is(11, "nothing there", x.repair(9, 0), -2);
        due.is(11, "a glass", x.repair(2, 0), -3);
        due.is(11, "BAD ahead of KIND", x.repair(2, 7), -1);
        due.is(11, "TODAY", x.repair(0, 6), 1);
        due.is(11, "told already", x.repair(0, 6), 0);
        due.is(11, "a box", x.repair(1, 0), 1);
        due.is(12, "day behind TODAY", x.late(0, 7), -1);
        due.is(12, "day -1", x.late(0, -1), -1);
        due.is(12, "place -1", x.late(-1, 0), -1);
        due.is(12, "nothing there", x.late(9, 0), -2);
        due.is(12, "a glass", x.late(2, 0), -3);
        due.is(12, "TODAY, repaired too", x.late(0, 6), 1);
        due.is(12, "told already", x.late(0, 6), 0);
        due.is(12, "a box", x.late(1, 0), 1);
        due.is(11, "repaired still", x.age(0, 6), 0);
    }

    private static void age() {
        SeaWatches x = shelf(20);
        due.is(13, "never repaired", x.age(0, 0), 0);
        due.is(13, "never repaired", x.age(0, 399), 399);
        x.repair(0, 5);
        x.repair(0, 12);
        x.late(0, 15);
        due.is(13, "ahead of it", x.age(0, 4), 4);
        due.is(13, "that day", x.age(0, 5), 0);
        due.is(13, "since", x.age(0, 11), 6);
        due.is(13, "the last one", x.age(0, 12), 0);
        due.is(13, "the last one", x.age(0, 20), 8);
        due.is(13, "behind TODAY", x.age(0, 399), 387);
        due.is(13, "day 400", x.age(0, 400), -1);
        due.is(13, "day -1", x.age(0, -1), -1);
        due.is(13, "place 16", x.age(16, 0), -1);
        due.is(13, "nothing there", x.age(9, 0), -2);
        due.is(13, "a glass", x.age(2, 0), -3);
        x.repair(1, 0);
        due.is(13, "repaired on day 0", x.age(1, 3), 3);
    }

    private static void off() {
        SeaWatches x = shelf(0);
        due.is(14, "signal 0", x.off(0, 0, 0, 0), -1);
        due.is(14, "signal 6", x.off(6, 0, 0, 0), -1);
        due.is(14, "a -1", x.off(1, -1, 0, 0), -1);
        due.is(14, "b 400", x.off(1, 0, 400, 0), -1);
        due.is(14, "a behind b", x.off(1, 2, 1, 0), -1);
        due.is(14, "v 10001", x.off(1, 0, 0, 10001), -1);
        due.is(14, "v -10001", x.off(1, 0, 0, -10001), -1);
        due.is(14, "none were told", x.count(2), 0);
        due.is(14, "first", x.off(5, 0, 399, 10000), 1);
        due.is(14, "second", x.off(1, 399, 399, -10000), 2);
        for (int i = 3; i <= 60; i++) {
            due.is(14, "more", x.off(5, 0, 0, 10000), i);
        }
        due.is(14, "BAD ahead of FULL", x.off(0, 0, 0, 1), -1);
        due.is(14, "full", x.off(5, 0, 0, 1), -5);
        due.is(14, "60", x.count(2), 60);
        x.compare(0, 0, -100000, 5);
        due.is(14, "all together", x.error(0, 0, -1), -100000 - 590000);
    }

    private static void changed() {
        SeaWatches x = shelf(10);
        int[] errors = {0, 10, 20, 1019, 1020, 1030, 1040};
        for (int day = 0; day < errors.length; day++) {
            x.compare(0, day, errors[day], day < 4 ? 2 : 0);
        }
        due.is(15, "nothing found off", x.changed(0, 0, 60, 0), 0);
        x.off(2, 3, 3, -1);
        due.is(15, "one is gone, one is another", x.changed(0, 0, 60, 9), 2);
        due.is(15, "days 0 to 2", x.changed(0, 0, 2, 9), 0);
        due.is(15, "day 2 alone", x.changed(0, 2, 3, 9), 1);
        due.is(15, "day 3 alone", x.changed(0, 3, 4, 9), 1);
        due.is(15, "as known on day 10", x.changed(0, 0, 60, 10), 0);
        due.is(15, "k -1", x.changed(0, 0, 60, -1), 0);
        due.is(15, "k -2", x.changed(0, 0, 60, -2), -1);
        due.is(15, "k 400", x.changed(0, 0, 60, 400), -1);
        due.is(15, "q - p 61", x.changed(0, 0, 61, 9), -1);
        due.is(15, "q - p 0", x.changed(0, 3, 3, 9), -1);
        due.is(15, "q 400", x.changed(0, 350, 400, 9), -1);
        due.is(15, "q 399", x.changed(0, 350, 399, 9), 0);
        due.is(15, "p -1", x.changed(0, -1, 4, 9), -1);
        due.is(15, "far apart", x.changed(0, Integer.MIN_VALUE, Integer.MAX_VALUE, 9), -1);
        due.is(15, "nothing there", x.changed(9, 0, 4, 9), -2);
        due.is(15, "a glass", x.changed(2, 0, 4, 9), -3);
        x.days(1);
        x.off(2, 2, 2, 0);
        due.is(15, "off by 0 changes none", x.changed(0, 0, 60, 10), 0);
        x.off(2, 3, 3, 1);
        due.is(15, "both ways and back", x.changed(0, 0, 60, 9), 0);
        due.is(15, "one is back", x.changed(0, 0, 60, 10), 2);
    }
}

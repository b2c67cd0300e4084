/** Promises 33 to 37: loans, holders, counts. */
public final class LoansTest {
    private static final int VOID = SeaWatches.VOID;
    private static final Due due = new Due("LoansTest");

    public static void main(String[] args) {
        lendAndHome();
        holderAndAway();
        atSea();
        count();
        due.end();
    }

    private static SeaWatches shelf() {
        SeaWatches x = new SeaWatches();
        x.put(0, 0, 0);
        x.put(1, 1, 5);
        x.put(2, 2, 6);
        return x;
    }

    private static void lendAndHome() {
        SeaWatches x = shelf();
        due.is(33, "person 20", x.lend(0, 20), -1);
        due.is(33, "person -1", x.lend(0, -1), -1);
        due.is(33, "place 16", x.lend(16, 0), -1);
        due.is(33, "place -1", x.lend(-1, 0), -1);
        due.is(33, "nothing there", x.lend(3, 0), -2);
        due.is(33, "a glass", x.lend(2, 0), -3);
        due.is(33, "BAD ahead of KIND", x.lend(2, 20), -1);
        due.is(34, "place 16", x.home(16), -1);
        due.is(34, "nothing there", x.home(3), -2);
        due.is(34, "a glass", x.home(2), -3);
        due.is(34, "the office's", x.home(0), -4);
        due.is(33, "person 19", x.lend(0, 19), 1);
        due.is(33, "a box, person 0", x.lend(1, 0), 1);
        due.is(33, "is lent", x.lend(0, 19), -4);
        due.is(33, "is lent", x.lend(1, 3), -4);
        due.is(34, "home", x.home(0), 1);
        due.is(34, "home from person 0", x.home(1), 1);
        due.is(34, "is home", x.home(1), -4);
        due.is(33, "again", x.lend(1, 3), 1);
    }

    private static void holderAndAway() {
        SeaWatches x = shelf();
        due.is(35, "the office", x.holder(0, 0), -1);
        due.is(36, "never away", x.away(0), 0);
        x.lend(0, 4);
        due.is(35, "at the day's end", x.holder(0, 0), 4);
        due.is(36, "one day", x.away(0), 1);
        x.home(0);
        due.is(35, "at the day's end", x.holder(0, 0), -1);
        due.is(36, "no day", x.away(0), 0);
        x.days(5);
        x.lend(0, 7);
        x.days(3);
        x.home(0);
        x.lend(0, 8);
        x.days(2);
        x.home(0);
        x.days(5);
        int[] holders = {-1, -1, -1, -1, -1, 7, 7, 7, 8, 8, -1, -1, -1, -1, -1, -1};
        for (int day = 0; day < holders.length; day++) {
            due.is(35, "holder of day " + day, x.holder(0, day), holders[day]);
        }
        due.is(35, "behind TODAY", x.holder(0, 16), VOID);
        due.is(35, "day -1", x.holder(0, -1), VOID);
        due.is(35, "place 16", x.holder(16, 0), VOID);
        due.is(35, "nothing there", x.holder(5, 0), VOID);
        due.is(35, "a glass", x.holder(2, 0), VOID);
        due.is(36, "away", x.away(0), 5);
        due.is(36, "a box", x.away(1), 0);
        due.is(36, "place 16", x.away(16), -1);
        due.is(36, "place -1", x.away(-1), -1);
        due.is(36, "nothing there", x.away(5), -2);
        due.is(36, "a glass", x.away(2), -3);
        x.lend(1, 2);
        x.days(100);
        due.is(36, "TODAY counts", x.away(1), 101);
        x.put(6, 0, 0);
        due.is(35, "newly come, the office's from the beginning", x.holder(6, 3), -1);
    }

    private static void atSea() {
        SeaWatches x = new SeaWatches();
        for (int place = 0; place < 3; place++) {
            x.put(place, 0, 0);
        }
        x.days(2);
        for (int place = 0; place < 3; place++) {
            for (int day = 0; day < 3; day++) {
                x.compare(place, day, day, 0);
            }
        }
        due.is(24, "sail", x.sail(4, 0, 1, 2), 1);
        due.is(35, "100 and the ship", x.holder(1, 2), 104);
        due.is(33, "at sea", x.lend(1, 2), -4);
        due.is(34, "at sea, no person has it", x.home(1), -4);
        due.is(5, "at sea", x.take(1), -4);
        x.days(4);
        due.is(36, "at sea", x.away(1), 5);
        due.is(8, "a day at sea", x.compare(1, 4, 0, 0), -4);
    }

    private static void count() {
        SeaWatches x = shelf();
        x.put(9, 2, 0);
        due.is(37, "watches and boxes", x.count(0), 2);
        x.lend(0, 1);
        due.is(37, "also lent ones", x.count(0), 2);
        x.days(7);
        due.is(37, "TODAY", x.count(1), 7);
        x.off(1, 0, 0, 0);
        due.is(37, "OFFS", x.count(2), 1);
        due.is(37, "ships at sea", x.count(3), 0);
        x.feed(3, 0);
        due.is(37, "bytes", x.count(4), 3);
        due.is(37, "glasses", x.count(5), 2);
        x.doubt(4);
        due.is(37, "on the list", x.count(6), 1);
        due.is(37, "what 7", x.count(7), -1);
        due.is(37, "what -1", x.count(-1), -1);
        x.take(9);
        x.take(1);
        due.is(37, "glasses", x.count(5), 1);
        due.is(37, "watches", x.count(0), 1);
    }
}

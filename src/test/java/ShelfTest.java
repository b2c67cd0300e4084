/** Promises 1 to 7: a new object, days, the shelf. */
public final class ShelfTest {
    private static final int VOID = SeaWatches.VOID;
    private static final Due due = new Due("ShelfTest");

    public static void main(String[] args) {
        newObject();
        days();
        warmth();
        put();
        takeAndHolds();
        read();
        due.end();
    }

    private static void newObject() {
        SeaWatches x = new SeaWatches();
        for (int what = 0; what <= 6; what++) {
            due.is(1, "count(" + what + ")", x.count(what), 0);
        }
        for (int place = 0; place < 16; place++) {
            due.is(1, "holds", x.holds(place), -5);
        }
        for (int ship = 0; ship < 5; ship++) {
            due.is(1, "state", x.state(ship), 0);
        }
        x.put(0, 0, 0);
        x.days(1);
        x.compare(0, 0, 0, 0);
        x.compare(0, 1, 5, 0);
        due.is(1, "no rule of trials", x.trial(0, 0, 1), VOID);
        due.is(1, "no rule of trials", x.order(0, 0, 1), -4);
        due.is(1, "no warmth", x.law(0, 0, 1), 0);
    }

    private static void days() {
        SeaWatches x = new SeaWatches();
        due.is(2, "days(0)", x.days(0), -1);
        due.is(2, "days(-1)", x.days(-1), -1);
        due.is(2, "days(101)", x.days(101), -1);
        due.is(2, "days(least int)", x.days(Integer.MIN_VALUE), -1);
        due.is(2, "days(greatest int)", x.days(Integer.MAX_VALUE), -1);
        due.is(2, "nothing changed", x.count(1), 0);
        due.is(2, "days(1)", x.days(1), 1);
        due.is(2, "days(100)", x.days(100), 101);
        due.is(2, "days(100)", x.days(100), 201);
        due.is(2, "days(100)", x.days(100), 301);
        due.is(2, "days(99) beyond 399", x.days(99), -1);
        due.is(2, "days(98)", x.days(98), 399);
        due.is(2, "days(1) beyond 399", x.days(1), -1);
        due.is(2, "TODAY", x.count(1), 399);
    }

    private static void warmth() {
        SeaWatches x = new SeaWatches();
        due.is(3, "warmth(-1, 0)", x.warmth(-1, 0), -1);
        due.is(3, "warmth(400, 0)", x.warmth(400, 0), -1);
        due.is(3, "warmth(399, 50), behind TODAY", x.warmth(399, 50), 1);
        due.is(3, "warmth(0, 51)", x.warmth(0, 51), -1);
        due.is(3, "warmth(0, -51)", x.warmth(0, -51), -1);
        due.is(3, "warmth(0, -99)", x.warmth(0, -99), -1);
        due.is(3, "warmth(0, -101)", x.warmth(0, -101), -1);
        x.put(0, 0, 0);
        x.days(2);
        for (int day = 0; day <= 2; day++) {
            x.compare(0, day, 7 * day, 0);
        }
        due.is(3, "none at first", x.law(0, 0, 2), 0);
        due.is(3, "warmth(0, -50)", x.warmth(0, -50), 1);
        due.is(3, "one has a warmth", x.law(0, 0, 2), 1);
        due.is(3, "warmth(1, 0)", x.warmth(1, 0), 1);
        due.is(3, "both have a warmth", x.law(0, 0, 2), 2);
        due.is(3, "warmth(0, -100)", x.warmth(0, -100), 1);
        due.is(3, "one has a warmth", x.law(0, 0, 2), 1);
        due.is(3, "BAD changes nothing", x.warmth(1, 60), -1);
        due.is(3, "one has a warmth", x.law(0, 0, 2), 1);
    }

    private static void put() {
        SeaWatches x = new SeaWatches();
        due.is(4, "put(-1, 0, 0)", x.put(-1, 0, 0), -1);
        due.is(4, "put(16, 0, 0)", x.put(16, 0, 0), -1);
        due.is(4, "put(0, 3, 0)", x.put(0, 3, 0), -1);
        due.is(4, "put(0, -1, 0)", x.put(0, -1, 0), -1);
        due.is(4, "put(0, 0, 1)", x.put(0, 0, 1), -1);
        due.is(4, "put(0, 1, 51)", x.put(0, 1, 51), -1);
        due.is(4, "put(0, 1, -51)", x.put(0, 1, -51), -1);
        due.is(4, "put(0, 1, -100)", x.put(0, 1, -100), -1);
        due.is(4, "still nothing", x.holds(0), -5);
        due.is(4, "put(0, 0, 0)", x.put(0, 0, 0), 1);
        due.is(4, "put(1, 1, -50)", x.put(1, 1, -50), 1);
        due.is(4, "put(15, 2, least int)", x.put(15, 2, Integer.MIN_VALUE), 1);
        due.is(4, "put on a watch", x.put(0, 2, 0), -4);
        due.is(4, "put on a box", x.put(1, 0, 0), -4);
        due.is(4, "put on a glass", x.put(15, 0, 0), -4);
        due.is(4, "BAD is named ahead of NOT", x.put(0, 0, 1), -1);
        due.is(4, "the watch stays", x.holds(0), 0);
        newWatchIsNew();
    }

    private static void newWatchIsNew() {
        SeaWatches x = new SeaWatches();
        x.put(3, 0, 0);
        x.days(4);
        x.compare(3, 0, 10, 0);
        x.compare(3, 1, 20, 0);
        x.repair(3, 2);
        x.late(3, 3);
        x.lend(3, 5);
        x.days(1);
        x.home(3);
        due.is(4, "take", x.take(3), 1);
        due.is(4, "put", x.put(3, 1, 9), 1);
        due.is(4, "no comparison", x.error(3, 0, -1), VOID);
        due.is(4, "never repaired", x.age(3, 4), 4);
        due.is(4, "not yet told", x.repair(3, 2), 1);
        due.is(4, "not yet told", x.late(3, 3), 1);
        due.is(4, "the office's from the beginning", x.holder(3, 4), -1);
        due.is(4, "never away", x.away(3), 0);
    }

    private static void takeAndHolds() {
        SeaWatches x = new SeaWatches();
        due.is(5, "take(-1)", x.take(-1), -1);
        due.is(5, "take(16)", x.take(16), -1);
        due.is(5, "take(0)", x.take(0), -2);
        x.put(0, 0, 0);
        x.put(1, 1, 4);
        x.put(2, 2, 5);
        due.is(6, "holds(0)", x.holds(0), 0);
        due.is(6, "holds(1)", x.holds(1), 1);
        due.is(6, "holds(2)", x.holds(2), 2);
        due.is(6, "holds(3)", x.holds(3), -5);
        due.is(6, "holds(-1)", x.holds(-1), -1);
        due.is(6, "holds(16)", x.holds(16), -1);
        x.lend(0, 1);
        due.is(5, "take what is lent", x.take(0), -4);
        due.is(5, "it stays", x.holds(0), 0);
        x.home(0);
        due.is(5, "take(0)", x.take(0), 1);
        due.is(5, "take(0) again", x.take(0), -2);
        due.is(5, "take(1)", x.take(1), 1);
        due.is(5, "take(2)", x.take(2), 1);
        due.is(6, "holds(2)", x.holds(2), -5);
    }

    private static void read() {
        SeaWatches x = new SeaWatches();
        x.put(0, 0, 0);
        x.put(1, 1, -50);
        x.put(2, 2, Integer.MAX_VALUE);
        due.is(7, "read(-1)", x.read(-1), VOID);
        due.is(7, "read(16)", x.read(16), VOID);
        due.is(7, "read of nothing", x.read(3), VOID);
        due.is(7, "read of a watch", x.read(0), VOID);
        due.is(7, "read of a box", x.read(1), -50);
        due.is(7, "read of a glass", x.read(2), Integer.MAX_VALUE);
        x.take(2);
        due.is(7, "read of nothing", x.read(2), VOID);
    }
}

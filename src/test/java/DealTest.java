import java.util.Arrays;
import java.util.Random;

/** Promises 30 to 32: doubts and who gets what. */
public final class DealTest {
    private static final int VOID = SeaWatches.VOID;
    private static final Due due = new Due("DealTest");

    public static void main(String[] args) {
        doubt();
        deal();
        dealt();
        allWays();
        due.end();
    }

    private static void doubt() {
        SeaWatches x = new SeaWatches();
        due.is(30, "0", x.doubt(0), -1);
        due.is(30, "-1", x.doubt(-1), -1);
        due.is(30, "10000", x.doubt(10000), -1);
        due.is(30, "1", x.doubt(1), 1);
        due.is(30, "9999", x.doubt(9999), 2);
        for (int i = 3; i <= 9; i++) {
            due.is(30, "more", x.doubt(i), i);
        }
        due.is(30, "full", x.doubt(5), -5);
        due.is(30, "BAD ahead of FULL", x.doubt(0), -1);
        due.is(30, "nine", x.count(6), 9);
    }

    private static void list(SeaWatches x, int... doubts) {
        for (int doubt : doubts) {
            x.doubt(doubt);
        }
    }

    private static void deal() {
        SeaWatches x = new SeaWatches();
        due.is(31, "an empty list", x.deal(1, 0, 0), -4);
        list(x, 4, 9);
        due.is(31, "two for one", x.deal(1, 0, 0), -4);
        due.is(31, "BAD ahead of NOT", x.deal(0, 0, 0), -1);
        list(x, 7);
        due.is(31, "a 401", x.deal(401, 0, 0), -1);
        due.is(31, "a -1", x.deal(-1, 0, 0), -1);
        due.is(31, "b -1", x.deal(1, -1, 0), -1);
        due.is(31, "b 401", x.deal(1, 401, 0), -1);
        due.is(31, "c 401", x.deal(1, 1, 401), -1);
        due.is(31, "c -1", x.deal(1, 1, -1), -1);
        due.is(31, "c without b", x.deal(1, 0, 1), -1);
        due.is(31, "three for two", x.deal(1, 1, 0), -4);
        due.is(31, "the list stays", x.count(6), 3);
        due.is(31, "the second least", x.deal(10, 0, 0), 70);
        due.is(31, "the list is empty", x.count(6), 0);
        list(x, 9999, 9999, 9999, 9999, 9999, 9999, 9999, 9999);
        due.is(31, "eight for three", x.deal(400, 400, 400), -4);
        list(x, 9999);
        due.is(31, "nine for three", x.deal(400, 400, 400), 400 * 9999);
        list(x, 1, 2, 3, 100, 100, 100);
        due.is(31, "1 and 2 with a great one; 3 and two great ones", x.deal(1, 1, 0), 100);
        list(x, 1, 2, 3, 4, 100, 100);
        due.is(31, "two small ones each", x.deal(1, 1, 0), 4);
        list(x, 1, 2, 3, 4, 100, 100);
        due.is(31, "two small ones each, by days", x.deal(2, 1, 0), 4);
        list(x, 6, 5, 4, 3, 2, 1);
        due.is(31, "the best three of six", x.deal(3, 0, 0), 6);
    }

    private static void dealt() {
        SeaWatches x = new SeaWatches();
        due.is(32, "before any", x.dealt(0), VOID);
        list(x, 5, 5, 5, 5);
        due.is(32, "before any", x.dealt(0), VOID);
        x.deal(1, 0, 0);
        int[] first = {0, 0, 0, -1};
        for (int i = 0; i < 4; i++) {
            due.is(32, "the first way", x.dealt(i), first[i]);
        }
        due.is(32, "none such", x.dealt(4), VOID);
        due.is(32, "none such", x.dealt(-1), VOID);
        list(x, 1, 1);
        x.deal(1, 0, 0);
        due.is(32, "the latest deal that was one", x.dealt(3), -1);
        x.doubt(1);
        x.deal(1, 0, 0);
        due.is(32, "the third one now", x.dealt(2), 0);
        due.is(32, "no fourth one now", x.dealt(3), VOID);
        list(x, 9, 1, 9, 1, 9, 9, 1);
        due.is(31, "deal", x.deal(2, 1, 0), 9);
        int[] second = {0, 0, 1, 0, 1, 1, -1};
        int[] got = new int[7];
        for (int i = 0; i < 7; i++) {
            got[i] = x.dealt(i);
        }
        due.is(32, "got " + Arrays.toString(got), Arrays.equals(got, second) ? 1 : 0, 1);
    }

    /** All of 4 to the power of the list's length, in the order of promise 32. */
    private static void allWays() {
        Random random = new Random(3);
        for (int run = 0; run < 60; run++) {
            SeaWatches x = new SeaWatches();
            int ships = 1 + random.nextInt(3);
            int n = 3 * ships + random.nextInt(10 - 3 * ships);
            int greatest = random.nextBoolean() ? 9999 : 6;
            int[] doubts = new int[n];
            int[] days = new int[3];
            for (int i = 0; i < n; i++) {
                doubts[i] = 1 + random.nextInt(greatest);
                x.doubt(doubts[i]);
            }
            for (int i = 0; i < ships; i++) {
                days[i] = 1 + random.nextInt(random.nextBoolean() ? 400 : 3);
            }
            int[] way = best(doubts, days, ships);
            due.is(31, "deal", x.deal(days[0], days[1], days[2]), worst(way, doubts, days, ships));
            for (int i = 0; i < n; i++) {
                due.is(32, "dealt", x.dealt(i), way[i] == ships ? -1 : way[i]);
            }
        }
    }

    private static int[] best(int[] doubts, int[] days, int ships) {
        int n = doubts.length;
        int[] best = null;
        int least = Integer.MAX_VALUE;
        long ways = (long) Math.pow(ships + 1, n);
        for (long number = 0; number < ways; number++) {
            int[] way = new int[n];
            long rest = number;
            for (int i = n - 1; i >= 0; i--) {
                way[i] = (int) (rest % (ships + 1));
                rest /= ships + 1;
            }
            int worst = worst(way, doubts, days, ships);
            if (worst >= 0 && worst < least) {
                least = worst;
                best = way;
            }
        }
        return best;
    }

    private static int worst(int[] way, int[] doubts, int[] days, int ships) {
        int worst = 0;
        for (int ship = 0; ship < ships; ship++) {
            int[] own = new int[doubts.length];
            int size = 0;
            for (int i = 0; i < way.length; i++) {
                if (way[i] == ship) {
                    own[size++] = doubts[i];
                }
            }
            if (size != 3) {
                return -1;
            }
            Arrays.sort(own, 0, 3);
            worst = Math.max(worst, days[ship] * own[1]);
        }
        return worst;
    }
}

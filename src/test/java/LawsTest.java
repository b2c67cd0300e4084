import java.math.BigInteger;
import java.util.ArrayList;
import java.util.Arrays;
import java.util.List;
import java.util.Random;

/** Promises 16 to 19: laws by least squares, and jumps. */
public final class LawsTest {
    private static final int VOID = SeaWatches.VOID;
    private static final Due due = new Due("LawsTest");

    public static void main(String[] args) {
        law();
        terms();
        foretold();
        foretoldByBigNumbers();
        foretoldNearlyInLine();
        foretoldAtTheBound();
        jump();
        due.end();
    }

    /** A watch at place 0, a box (warmth 10) at 1, a glass at 2; errors of the watch from these rates. */
    private static SeaWatches withRates(int... rates) {
        SeaWatches x = new SeaWatches();
        x.put(0, 0, 0);
        x.put(1, 1, 10);
        x.put(2, 2, 5);
        x.days(rates.length);
        int error = 0;
        x.compare(0, 0, error, 0);
        x.compare(1, 0, error, 0);
        for (int day = 0; day < rates.length; day++) {
            error += rates[day];
            x.compare(0, day + 1, error, 0);
            x.compare(1, day + 1, error, 0);
        }
        return x;
    }

    private static void refusals(int promise, SeaWatches x, int notThere) {
        due.is(promise, "q - p 0", x.terms(0, 2, 2), -1);
        due.is(promise, "q - p 0", x.law(0, 2, 2), -1);
        due.is(promise, "q ahead of p", x.law(0, 3, 2), -1);
        due.is(promise, "q - p 61", x.law(0, 0, 61), -1);
        due.is(promise, "q - p 60", x.law(0, 300, 360), notThere);
        due.is(promise, "q 400", x.law(0, 399, 400), -1);
        due.is(promise, "q 399", x.law(0, 398, 399), notThere);
        due.is(promise, "p -1", x.law(0, -1, 3), -1);
        due.is(promise, "place 16", x.law(16, 0, 3), -1);
        due.is(promise, "place -1", x.law(-1, 0, 3), -1);
        due.is(promise, "BAD ahead of MISSING", x.law(5, 0, 0), -1);
        due.is(promise, "nothing there", x.law(5, 0, 3), -2);
        due.is(promise, "a glass", x.law(2, 0, 3), -3);
    }

    private static void law() {
        SeaWatches x = withRates(5, 6, 7, 8);
        refusals(16, x, 0);
        due.is(16, "no warmth", x.law(0, 0, 4), 0);
        due.is(16, "a box has its own", x.law(1, 0, 4), 4);
        x.warmth(0, 1);
        x.warmth(2, -50);
        x.warmth(4, 3);
        due.is(16, "two with warmth and rate", x.law(0, 0, 60), 2);
        due.is(16, "day q - 1 at most", x.law(0, 0, 2), 1);
        due.is(16, "day p at least", x.law(0, 1, 3), 1);
        x.repair(0, 1);
        due.is(16, "one rate less", x.law(0, 0, 60), 1);
    }

    private static void terms() {
        SeaWatches x = withRates(5, 6, 7, 8);
        due.is(17, "no rate with warmth", x.terms(0, 0, 4), -4);
        due.is(17, "a box: 1 and AGE", x.terms(1, 0, 4), 4);
        due.is(17, "a box, one day: 1", x.terms(1, 0, 1), 1);
        due.is(17, "nothing there", x.terms(5, 0, 3), -2);
        due.is(17, "a glass", x.terms(2, 0, 3), -3);
        due.is(17, "place 16", x.terms(16, 0, 3), -1);
        x.warmth(0, 1);
        due.is(17, "one day: 1", x.terms(0, 0, 4), 1);
        x.warmth(1, 1);
        due.is(17, "WARMTH is the same: 1 and AGE", x.terms(0, 0, 4), 4);
        x.warmth(1, 2);
        due.is(17, "two days: 1 and WARMTH", x.terms(0, 0, 4), 2);
        x.warmth(2, 3);
        due.is(17, "WARMTH in line with AGE: 1 and WARMTH", x.terms(0, 0, 4), 2);
        x.warmth(3, 5);
        due.is(17, "not in line: all", x.terms(0, 0, 4), 3);
        x.repair(0, 0);
        due.is(17, "AGE as it was", x.terms(0, 0, 4), 3);
        SeaWatches y = withRates(5, 5, 5, 5, 5, 5);
        y.repair(0, 0);
        y.repair(0, 2);
        y.repair(0, 4);
        y.late(0, 6);
        for (int day = 0; day < 6; day++) {
            y.warmth(day, day);
        }
        // rates are left of days 0, 2, 4, all of AGE 0
        due.is(17, "AGE is the same: 1 and WARMTH", y.terms(0, 0, 6), 2);
        for (int day = 0; day < 6; day++) {
            y.warmth(day, 9);
        }
        due.is(17, "both are the same: 1", y.terms(0, 0, 6), 1);
    }

    private static void foretold() {
        SeaWatches x = withRates(-1, -2, -2);
        due.is(18, "no rate with warmth", x.foretold(0, 0, 3, 0, 0), VOID);
        due.is(18, "mean of one", x.foretold(1, 0, 1, 0, 0), -1000);
        x.warmth(0, 7);
        x.warmth(1, 7);
        x.warmth(2, 7);
        x.repair(0, 0);
        // rates -1, -2, -2 at AGE 0, 1, 2: mean -5/3, by AGE -1/2
        due.is(18, "by AGE", x.foretold(0, 0, 3, 0, 1), -1667);
        due.is(18, "by AGE", x.foretold(0, 0, 3, 50, 0), -1167);
        due.is(18, "by AGE", x.foretold(0, 0, 3, -50, 399), -1667 - 199000);
        x.warmth(1, 8);
        x.warmth(2, 9);
        due.is(18, "by WARMTH", x.foretold(0, 0, 3, 8, 399), -1667);
        due.is(18, "by WARMTH", x.foretold(0, 0, 3, 6, 0), -667);
        x.warmth(1, 50);
        // -1 = c + 7 w, -2 = c + 50 w + a, -2 = c + 9 w + 2 a
        due.is(18, "by all, exact at the days themselves", x.foretold(0, 0, 3, 7, 0), -1000);
        due.is(18, "by all, exact at the days themselves", x.foretold(0, 0, 3, 50, 1), -2000);
        due.is(18, "by all, exact at the days themselves", x.foretold(0, 0, 3, 9, 2), -2000);
        due.is(18, "w 51", x.foretold(0, 0, 3, 51, 0), VOID);
        due.is(18, "w -51", x.foretold(0, 0, 3, -51, 0), VOID);
        due.is(18, "g -1", x.foretold(0, 0, 3, 0, -1), VOID);
        due.is(18, "g 400", x.foretold(0, 0, 3, 0, 400), VOID);
        due.is(18, "q - p 0", x.foretold(0, 0, 0, 0, 0), VOID);
        due.is(18, "place 16", x.foretold(16, 0, 3, 0, 0), VOID);
        due.is(18, "nothing there", x.foretold(9, 0, 3, 0, 0), VOID);
        due.is(18, "a glass", x.foretold(2, 0, 3, 0, 0), VOID);
        meanRoundedDown();
    }

    private static void meanRoundedDown() {
        SeaWatches y = withRates(1, 0, 0, 0, 0);
        y.repair(1, 2);
        y.repair(1, 4);
        y.late(1, 5);
        // of the box rates are left of days 0 (1) and 2 (0), both of AGE 0
        due.is(18, "terms", y.terms(1, 0, 5), 1);
        due.is(18, "1/2", y.foretold(1, 0, 5, 0, 0), 500);
        SeaWatches z = withRates(-1, 0, 0, 0, 0, 0);
        z.repair(1, 2);
        z.repair(1, 4);
        z.late(1, 6);
        // rates are left of days 0 (-1), 2 (0), 4 (0), all of AGE 0
        due.is(18, "-1/3", z.foretold(1, 0, 6, 0, 0), -334);
    }

    /** The same by the normal equations in big whole numbers, and Cramer's rule. */
    private static void foretoldByBigNumbers() {
        Random random = new Random(7);
        for (int run = 0; run < 1500; run++) {
            int p = random.nextInt(339);
            int length = 1 + random.nextInt(random.nextBoolean() ? 4 : 60);
            SeaWatches x = new SeaWatches();
            x.put(0, 0, 0);
            for (int left = p + length; left > 0; left -= 100) {
                x.days(Math.min(100, left));
            }
            int greatest = random.nextBoolean() ? 999 : 3;
            int style = random.nextInt(6);
            int error = 0;
            long[] warmths = new long[400];
            x.compare(0, p, error, 0);
            for (int day = p; day < p + length; day++) {
                error += random.nextInt(5) == 0 ? greatest : random.nextInt(2 * greatest + 1) - greatest;
                x.compare(0, day + 1, error, 0);
                warmths[day] = warmthOf(style, day - p, random);
                x.warmth(day, (int) warmths[day]);
                if (random.nextInt(style == 5 ? 2 : 30) == 0) {
                    x.repair(0, day);
                }
            }
            compareLaw(x, p, p + length, warmths, random);
        }
    }

    /**
     * Few days, of which warmth and age are nearly in line, and a repair by which ages are far apart: then the
     * numbers of a law are great, also beyond 2000000000.
     */
    private static void foretoldNearlyInLine() {
        Random random = new Random(5);
        int beyond = 0;
        for (int run = 0; run < 4000; run++) {
            SeaWatches x = sixtyRates(random);
            int first = 339 + random.nextInt(20);
            int second = 359 + random.nextInt(20);
            int third = 380 + random.nextInt(19);
            long[] warmths = new long[400];
            Arrays.fill(warmths, -100);
            warmths[first] = random.nextInt(2) - 50;
            warmths[third] = 50 - random.nextInt(40);
            // the age of the first day is the greatest one: what is left out of line is a rest of a division
            long ages = x.age(0, third) - x.age(0, first);
            long inLine = warmths[first] + (x.age(0, second) - x.age(0, first)) * (warmths[third] - warmths[first]) / ages;
            warmths[second] = Math.max(-50, Math.min(50, inLine + random.nextInt(2)));
            if (random.nextInt(3) == 0) {
                warmths[339 + random.nextInt(60)] = 50;
            }
            for (int day = 339; day < 399; day++) {
                x.warmth(day, (int) warmths[day]);
            }
            compareLaw(x, 339, 399, warmths, random);
            beyond += x.foretold(0, 339, 399, -50, 0) == VOID ? 1 : 0;
        }
        due.is(18, "some are beyond", beyond > 20 ? 1 : 0, 1);
    }

    private static void foretoldAtTheBound() {
        int[] days = {342, 366, 394};
        SeaWatches x = threeRates(days, new int[] {-43, -31, -32}, new int[] {-271, 658, -624});
        due.is(18, "not beyond", x.foretold(0, 339, 399, -50, 399), 2000000000);
        int[] others = {352, 368, 387};
        SeaWatches y = threeRates(others, new int[] {-22, -4, -5}, new int[] {-175, 14, 129});
        due.is(18, "2000001000 is beyond", y.foretold(0, 339, 399, -50, 0), VOID);
        int[] third = {353, 361, 393};
        SeaWatches z = threeRates(third, new int[] {-8, 3, 2}, new int[] {823, 727, 132});
        due.is(18, "below 0, not beyond", z.foretold(0, 339, 399, 0, 399), -1999999000);
    }

    /** Three rates alone, with a repair on day 359. */
    private static SeaWatches threeRates(int[] days, int[] warmths, int[] rates) {
        SeaWatches x = new SeaWatches();
        x.put(0, 0, 0);
        for (int i = 0; i < 4; i++) {
            x.days(i == 3 ? 99 : 100);
        }
        x.repair(0, 359);
        for (int i = 0; i < 3; i++) {
            x.compare(0, days[i], 0, 0);
            x.compare(0, days[i] + 1, rates[i], 0);
            x.warmth(days[i], warmths[i]);
        }
        return x;
    }

    /** Of days 339 to 398, each 999 or -999, with a repair on day 359, by which the rate of 358 is none. */
    private static SeaWatches sixtyRates(Random random) {
        SeaWatches x = new SeaWatches();
        x.put(0, 0, 0);
        for (int i = 0; i < 4; i++) {
            x.days(i == 3 ? 99 : 100);
        }
        int error = 0;
        x.compare(0, 339, error, 0);
        for (int day = 339; day < 399; day++) {
            error += random.nextBoolean() ? 999 : -999;
            x.compare(0, day + 1, error, 0);
        }
        x.repair(0, 359);
        return x;
    }

    private static int warmthOf(int style, int i, Random random) {
        switch (style) {
            case 0: return random.nextInt(101) - 50;
            case 1: return Math.min(50, i - 8);
            case 2: return i == 0 ? 49 : 50;
            case 3: return random.nextInt(3) == 0 ? -100 : random.nextInt(3) - 1;
            case 4: return (i & 1) == 0 ? 50 : -50;
            default: return random.nextInt(2);
        }
    }

    private static void compareLaw(SeaWatches x, int p, int q, long[] warmths, Random random) {
        List<long[]> rows = new ArrayList<>();
        for (int day = p; day < q; day++) {
            int rate = x.rate(0, day, -1);
            if (rate != VOID && warmths[day] != -100) {
                rows.add(new long[] {rate, 1, warmths[day], x.age(0, day)});
            }
        }
        due.is(16, "law", x.law(0, p, q), rows.size());
        if (rows.isEmpty()) {
            due.is(17, "terms", x.terms(0, p, q), -4);
            return;
        }
        int[][] choices = {{1, 2, 3}, {1, 2}, {1, 3}, {1}};
        int[] answers = {3, 2, 4, 1};
        int chosen = 0;
        while (determinant(gram(rows, choices[chosen], 0)).signum() == 0) {
            chosen++;
        }
        due.is(17, "terms", x.terms(0, p, q), answers[chosen]);
        for (int i = 0; i < 6; i++) {
            int w = i == 0 ? 50 : i == 1 ? -50 : random.nextInt(101) - 50;
            int g = i == 0 ? 399 : i == 1 ? 0 : random.nextInt(400);
            due.is(18, "foretold(" + w + ", " + g + ") of " + rows.size() + " rates",
                    x.foretold(0, p, q, w, g), foretell(rows, choices[chosen], w, g));
        }
    }

    /** The matrix of the normal equations; behind column number (from 1) stands the right side instead. */
    private static BigInteger[][] gram(List<long[]> rows, int[] columns, int instead) {
        BigInteger[][] m = new BigInteger[columns.length][columns.length];
        for (int i = 0; i < columns.length; i++) {
            for (int j = 0; j < columns.length; j++) {
                BigInteger sum = BigInteger.ZERO;
                for (long[] row : rows) {
                    long other = j + 1 == instead ? row[0] : row[columns[j]];
                    sum = sum.add(BigInteger.valueOf(row[columns[i]] * other));
                }
                m[i][j] = sum;
            }
        }
        return m;
    }

    private static BigInteger determinant(BigInteger[][] m) {
        if (m.length == 1) {
            return m[0][0];
        }
        BigInteger sum = BigInteger.ZERO;
        for (int skip = 0; skip < m.length; skip++) {
            BigInteger[][] less = new BigInteger[m.length - 1][m.length - 1];
            for (int i = 1; i < m.length; i++) {
                for (int j = 0, at = 0; j < m.length; j++) {
                    if (j != skip) {
                        less[i - 1][at++] = m[i][j];
                    }
                }
            }
            BigInteger part = m[0][skip].multiply(determinant(less));
            sum = skip % 2 == 0 ? sum.add(part) : sum.subtract(part);
        }
        return sum;
    }

    private static long foretell(List<long[]> rows, int[] columns, int w, int g) {
        long[] at = {0, 1, w, g};
        BigInteger below = determinant(gram(rows, columns, 0));
        BigInteger above = BigInteger.ZERO;
        for (int i = 0; i < columns.length; i++) {
            above = above.add(determinant(gram(rows, columns, i + 1)).multiply(BigInteger.valueOf(at[columns[i]])));
        }
        BigInteger[] parts = above.multiply(BigInteger.valueOf(1000)).divideAndRemainder(below);
        long down = parts[0].longValueExact() - (parts[1].signum() < 0 ? 1 : 0);
        return Math.abs(down) > 2000000000L ? VOID : down;
    }

    private static void jump() {
        SeaWatches x = withRates(5, 9, 5, 1, 7, 4);
        // in order 1 4 5 5 7 9: the middle one is 5
        due.is(19, "first of the farthest", x.jump(0, 0, 6, 0), 1);
        due.is(19, "bound 3", x.jump(0, 0, 6, 3), 1);
        due.is(19, "bound 4", x.jump(0, 0, 6, 4), -4);
        due.is(19, "bound 2000", x.jump(0, 0, 6, 2000), -4);
        due.is(19, "bound 2001", x.jump(0, 0, 6, 2001), -1);
        due.is(19, "bound -1", x.jump(0, 0, 6, -1), -1);
        // of days 2 to 3: 1 5, the middle one is 1
        due.is(19, "the lower middle", x.jump(0, 2, 4, 3), 2);
        due.is(19, "one rate", x.jump(0, 3, 4, 0), -4);
        due.is(19, "a box", x.jump(1, 3, 6, 0), 3);
        due.is(19, "no rate", x.jump(0, 50, 60, 0), -4);
        due.is(19, "q - p 61", x.jump(0, 0, 61, 0), -1);
        due.is(19, "q - p 0", x.jump(0, 1, 1, 0), -1);
        due.is(19, "place 16", x.jump(16, 0, 6, 0), -1);
        due.is(19, "BAD ahead of MISSING", x.jump(9, 0, 6, -1), -1);
        due.is(19, "nothing there", x.jump(9, 0, 6, 0), -2);
        due.is(19, "a glass", x.jump(2, 0, 6, 0), -3);
        SeaWatches y = withRates(999, -999);
        due.is(19, "1998 off", y.jump(0, 0, 2, 1997), 0);
        due.is(19, "1998 off", y.jump(0, 0, 2, 1998), -4);
    }
}

import java.util.Random;

/** Runs of 512 calls, of which each answer is compared with the model's. */
public final class RandomRunsTest {
    private static final Due due = new Due("RandomRunsTest");
    private static final String[] WORDS = {
        "or", "and", "not", "abs", "(", ")", "(", ")", "+", "-", "*", "/", "<", "=", ">", "days", "least", "most",
        "span", "gaps", "jump", "drift", "sum", "warm", "off", "doubt", "which", "0", "1", "7", "99999", "100000",
        " ", "x", "!"};

    private final Random random;
    private final SeaWatches x = new SeaWatches();
    private final Model model = new Model();

    private RandomRunsTest(long seed) {
        random = new Random(seed);
    }

    public static void main(String[] args) {
        int runs = args.length > 0 ? Integer.parseInt(args[0]) : 1500;
        for (int seed = 0; seed < runs; seed++) {
            new RandomRunsTest(seed).run(seed);
        }
        texts(runs * 40);
        due.end();
    }

    private void run(int seed) {
        boolean sailing = seed % 2 == 0;
        if (sailing) {
            makeReady();
        }
        for (int i = 0; i < 400; i++) {
            one(random.nextInt(34));
        }
    }

    /** Texts alone, also such as are nearly good. */
    private static void texts(int count) {
        Random random = new Random(11);
        for (int i = 0; i < count; i++) {
            SeaWatches x = new SeaWatches();
            Model model = new Model();
            String text = text(random);
            Due.feed(x, text);
            model.tape.append(text);
            int which = random.nextInt(2);
            due.is(21, "rule(" + which + ") of '" + text + "'", x.rule(which), model.rule(which));
        }
    }

    private static String text(Random random) {
        StringBuilder text = new StringBuilder();
        if (random.nextInt(4) == 0) {
            int words = random.nextInt(12);
            for (int i = 0; i < words; i++) {
                text.append(WORDS[random.nextInt(WORDS.length)]).append(random.nextInt(3) == 0 ? "" : " ");
            }
        } else {
            grow(random, text, 1 + random.nextInt(9), random.nextInt(3) == 0 ? 13 : 0);
        }
        if (random.nextInt(5) == 0 && text.length() > 0) {
            text.deleteCharAt(random.nextInt(text.length()));
        }
        text.setLength(Math.min(120, text.length()));
        return text.toString();
    }

    /** A good text, mostly. */
    private static void grow(Random random, StringBuilder text, int size, int deep) {
        for (int i = 0; i < deep; i++) {
            String[] openers = {"(", "-", "abs ", "("};
            text.append(openers[random.nextInt(4)]);
        }
        if (size <= 1) {
            text.append(WORDS[15 + random.nextInt(16)]);
        } else if (random.nextInt(4) == 0) {
            String[] ahead = {"not ", "-", "abs ", "("};
            int one = random.nextInt(4);
            text.append(ahead[one]);
            grow(random, text, size - 1, 0);
            text.append(one == 3 ? ")" : "");
        } else {
            String[] between = {" or ", " and ", "+", "-", "*", "/", "<", "=", ">"};
            int left = 1 + random.nextInt(size - 1);
            grow(random, text, left, 0);
            text.append(between[random.nextInt(between.length)]);
            grow(random, text, size - left, 0);
        }
        if (deep > 0) {
            for (int i = text.indexOf("("); i >= 0; i = text.indexOf("(", i + 1)) {
                text.append(")");
            }
        }
    }

    private void makeReady() {
        for (int place = 0; place < 7; place++) {
            int kind = random.nextInt(5) == 0 ? 1 : 0;
            same(4, "put", x.put(place, kind, 0), model.put(place, kind, 0));
        }
        same(2, "days", x.days(6), model.days(6));
        for (int place = 0; place < 7; place++) {
            int error = random.nextInt(1000);
            for (int day = 2; day <= 6; day++) {
                int source = random.nextInt(3);
                same(8, "compare", x.compare(place, day, error, source), model.compare(place, day, error, source));
                error += random.nextInt(40) - 15;
            }
        }
    }

    private void same(int promise, String call, int got, int want) {
        due.is(promise, call, got, want);
    }

    /** Mostly within the bounds, at times just beyond them or far away. */
    private int within(int least, int most) {
        int chance = random.nextInt(60);
        if (chance == 0) {
            return least - 1;
        }
        if (chance == 1) {
            return most + 1;
        }
        return least + random.nextInt(most - least + 1);
    }

    private int place() {
        return random.nextInt(30) == 0 ? within(0, 15) : random.nextInt(8);
    }

    private int day() {
        int chance = random.nextInt(30);
        if (chance == 0) {
            return within(0, 399);
        }
        return Math.max(chance == 1 ? -1 : 0, model.today - random.nextInt(chance < 15 ? 2 : 12) + (chance == 2 ? 2 : 0));
    }

    private int k() {
        return random.nextInt(3) == 0 ? -1 : day();
    }

    private void one(int kind) {
        int a = place();
        int d = day();
        int p = Math.max(0, model.today - 5 - random.nextInt(15));
        int q = p + (random.nextInt(20) == 0 ? within(1, 60) : 4 + random.nextInt(20));
        switch (kind) {
            case 0: manyDays(); return;
            case 1: warmth(d); return;
            case 2: put(a); return;
            case 3: if (random.nextInt(4) == 0) { same(5, "take", x.take(a), model.take(a)); } return;
            case 4: case 5: case 6: case 7: case 8: case 9: compare(a, d); return;
            case 10: int k = k(); same(9, "error", x.error(a, d, k), model.errorOrRate(false, a, d, k)); return;
            case 11: int l = k(); same(10, "rate", x.rate(a, d, l), model.errorOrRate(true, a, d, l)); return;
            case 12: if (random.nextInt(3) == 0) { same(11, "repair", x.repair(a, d), model.mark(true, a, d)); } return;
            case 13: if (random.nextInt(3) == 0) { same(12, "late", x.late(a, d), model.mark(false, a, d)); } return;
            case 14: same(13, "age", x.age(a, d), model.age(a, d)); return;
            case 15: off(d); return;
            case 16: int m = k(); same(15, "changed", x.changed(a, p, q, m), model.changed(a, p, q, m)); return;
            case 17: same(16, "law", x.law(a, p, q), model.law(a, p, q)); return;
            case 18: int b = within(0, 40); same(19, "jump", x.jump(a, p, q, b), model.jump(a, p, q, b)); return;
            case 19: rule(); return;
            case 20: same(22, "trial", x.trial(a, p, q), model.trialOrVoid(a, p, q)); return;
            case 21: same(23, "order", x.order(a, p, q), model.order(a, p, q)); return;
            case 22: case 23: sail(); return;
            default: atSeaOrLent(kind, a, d); return;
        }
    }

    private void atSeaOrLent(int kind, int a, int d) {
        int ship = random.nextInt(40) == 0 ? within(0, 4) : random.nextInt(2);
        switch (kind) {
            case 24: case 25: sight(ship, d); return;
            case 26: case 27: told(ship); return;
            case 28: back(ship); return;
            case 29: same(29, "state", x.state(ship), model.state(ship)); return;
            case 30: loan(a); return;
            case 31: same(35, "holder", x.holder(a, d), model.holder(a, d)); return;
            case 32: same(36, "away", x.away(a), model.away(a)); return;
            default: same(25, "carried", x.carried(ship, d % 3, a % 4), model.carried(ship, d % 3, a % 4)); return;
        }
    }

    private void manyDays() {
        int n = random.nextInt(6) == 0 ? within(1, 100) : 1 + random.nextInt(2);
        same(2, "days", x.days(n), model.days(n));
        for (int place = 0; place < 8; place++) {
            if (random.nextInt(3) > 0) {
                compare(place, model.today);
            }
        }
    }

    private void warmth(int day) {
        int w = random.nextInt(6) == 0 ? -100 : within(-50, 50);
        same(3, "warmth", x.warmth(day, w), model.warmth(day, w));
    }

    private void put(int place) {
        int kind = random.nextInt(30) == 0 ? within(0, 2) : random.nextInt(8) == 0 ? 1 + random.nextInt(2) : 0;
        int w = kind == 0 ? (random.nextInt(30) == 0 ? 1 : 0) : within(-50, 50);
        same(4, "put", x.put(place, kind, w), model.put(place, kind, w));
    }

    private void compare(int place, int day) {
        int error = random.nextInt(30) == 0 ? within(-100000, 100000) : random.nextInt(300);
        int source = random.nextInt(3) == 0 ? within(0, 5) : 0;
        same(8, "compare", x.compare(place, day, error, source), model.compare(place, day, error, source));
    }

    private void off(int day) {
        int signal = within(1, 5);
        int b = day + random.nextInt(10) - 1;
        int v = random.nextInt(20) == 0 ? within(-10000, 10000) : random.nextInt(200) - 100;
        same(14, "off", x.off(signal, day, b, v), model.off(signal, day, b, v));
    }

    private void rule() {
        String text = text(random);
        for (int i = 0; i < text.length(); i++) {
            int v = text.charAt(i);
            same(20, "feed", x.feed(1, v), model.feed(1, v));
        }
        int which = within(0, 1);
        same(21, "rule(" + which + ") of '" + text + "'", x.rule(which), model.rule(which));
    }

    private void sail() {
        int ship = random.nextInt(30) == 0 ? within(0, 4) : random.nextInt(2);
        int a = place();
        int b = place();
        int c = place();
        same(24, "sail", x.sail(ship, a, b, c), model.sail(ship, a, b, c));
    }

    private void sight(int ship, int day) {
        int a = random.nextInt(400);
        int b = random.nextInt(20) == 0 ? within(-2000000, 2000000) : random.nextInt(400);
        int c = random.nextInt(400);
        same(26, "sight", x.sight(ship, day, a, b, c), model.sight(ship, day, a, b, c));
    }

    private void told(int ship) {
        int sight = random.nextInt(20) == 0 ? within(0, 39) : random.nextInt(3);
        for (int what = -1; what <= 10; what++) {
            same(27, "told", x.told(ship, sight, what), model.told(ship, sight, what));
        }
    }

    private void back(int ship) {
        int a = random.nextInt(20) == 0 ? within(-100000, 100000) : random.nextInt(400);
        int b = random.nextInt(400);
        int c = random.nextInt(400);
        same(28, "back", x.back(ship, a, b, c), model.back(ship, a, b, c));
    }

    private void loan(int place) {
        if (random.nextBoolean()) {
            int person = within(0, 19);
            same(33, "lend", x.lend(place, person), model.lend(place, person));
        } else {
            same(34, "home", x.home(place), model.home(place));
        }
    }
}

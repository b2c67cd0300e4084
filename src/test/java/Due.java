/** Counts answers that are not the ones that are due, and tells them. */
final class Due {
    private final String test;
    private int asked = 0;
    private int wrong = 0;

    Due(String test) {
        this.test = test;
    }

    void is(int promise, String call, long got, long want) {
        asked++;
        if (got != want) {
            wrong++;
            System.out.println("promise " + promise + ": " + call + " answered " + got + ", due is " + want);
        }
    }

    /** Puts a text on the tape, in fours. */
    static void feed(SeaWatches x, String text) {
        for (int i = 0; i < text.length(); i += 4) {
            int n = Math.min(4, text.length() - i);
            int v = 0;
            for (int j = 0; j < n; j++) {
                v |= text.charAt(i + j) << (8 * j);
            }
            x.feed(n, v);
        }
    }

    static int rule(SeaWatches x, int which, String text) {
        feed(x, text);
        return x.rule(which);
    }

    void end() {
        System.out.println(test + ": " + asked + " asked, " + wrong + " wrong");
        if (wrong != 0) {
            System.exit(1);
        }
    }
}

import java.io.IOException;
import java.nio.file.Files;
import java.nio.file.Path;

/** Counts answers that are not the ones that are due, and tells them. */
final class Due {
    private static final Path DOCUMENT = Path.of("../shared/DOC.md");

    private final String test;
    private int asked = 0;
    private int wrong = 0;
    private int promise = 0;
    private String sentence = "";

    Due(String test) {
        this.test = test;
    }

    /** The sentence of the document that the next answers are about: 0 for one of no promise alone. */
    void says(int ofPromise, String words) {
        promise = ofPromise;
        sentence = words;
        if (Files.exists(DOCUMENT) && !document().contains(words)) {
            wrong++;
            System.out.println("the document does not say: " + words);
        }
    }

    private static String document() {
        try {
            return Files.readString(DOCUMENT);
        } catch (IOException e) {
            throw new IllegalStateException("the document can't be read", e);
        }
    }

    void is(String call, long got, long want) {
        asked++;
        if (got != want) {
            wrong++;
            System.out.println("promise " + promise + ", '" + sentence + "': " + call + " answered " + got
                    + ", due is " + want);
        }
    }

    void is(int promise, String call, long got, long want) {
        asked++;
        if (got != want) {
            wrong++;
            System.out.println("promise " + promise + ": " + call + " answered " + got + ", due is " + want);
        }
    }

    void run(String script) {
        new Script(script).run(this);
    }

    /** Puts a text on the tape, in fours. */
    static void feed(SeaWatches x, String text) {
        for (int i = 0; i < text.length(); i += 4) {
            int n = Math.min(4, text.length() - i);
            x.feed(n, packed(text, i, n));
        }
    }

    /** n bytes of a text from a place on, the first one lowest. */
    static int packed(String text, int from, int n) {
        int v = 0;
        for (int j = 0; j < n; j++) {
            v |= text.charAt(from + j) << (8 * j);
        }
        return v;
    }

    static int rule(SeaWatches x, int which, String text) {
        feed(x, text);
        return x.rule(which);
    }

    void end() {
        System.out.println(test + ": " + asked + " asked, " + wrong + " wrong");
        if (wrong != 0) {
            System.exit(1);
        }
    }
}

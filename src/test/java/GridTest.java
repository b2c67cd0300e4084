import java.util.ArrayList;
import java.util.List;

/**
 * Each call with all combinations of arguments at and beyond their bounds, in several states: of several answers it is
 * the one named first, as the model says it, and what is refused changes nothing.
 */
public final class GridTest {
    private static final Due due = new Due("GridTest");
    private static final int MOST_AT_ONCE = 100;
    private static final int[] PLACES = {Integer.MIN_VALUE, -1, 0, 1, 2, 3, 4, 15, 16, Integer.MAX_VALUE};
    private static final int[] SHIPS = {Integer.MIN_VALUE, -1, 0, 1, 4, 5, Integer.MAX_VALUE};

    private final List<Call> story;
    private final Questions questions;
    private final int today;
    private final List<Call> refused = new ArrayList<>();
    private SeaWatches x;
    private Model model;

    private GridTest(String state) {
        story = new Script(state).calls();
        questions = new Questions(story, story);
        beginAgain();
        today = model.today;
    }

    public static void main(String[] args) {
        due.says(0, "Answers, of several the one named first: BAD (-1): no such place, day, ship, source, or a number is not "
                + "as said; MISSING (-2): nothing there; KIND (-3): of another kind; NOT (-4): as told; FULL (-5).");
        due.says(0, "What is answered so changes nothing.");
        String rules = "tape 'sum - gaps'; rule(0); tape 'off - 40'; rule(1);";
        String full = "off(1, 0, 399, 1);".repeat(60) + "feed(4, 538976288);".repeat(30) + "doubt(7);".repeat(9);
        String[] states = {
            "",
            ShipEdgesTest.READY + rules + "warmth(0, 4); off(2, 1, 1, 3); tape 'most'; doubt(4); lend(1, 3);",
            ShipEdgesTest.AT_SEA + rules + "put(15, 0, 0); compare(15, 6, 3, 2); compare(15, 7, 4, 1); warmth(6, 9);",
            ShipEdgesTest.AT_SEA + rules + "back(0, 1, 2, 3); sail(1, 2, 0, 1); days(1); sight(1, 8, 1, 2, 3);",
            ShipEdgesTest.AT_SEA + full + "sight(0, 7, 1, 2, 3);".repeat(39),
            "days(100); days(100); days(100); days(99); put(0, 0, 0); put(3, 2, 5); compare(0, 398, 4, 0);"
                    + "compare(0, 399, 5, 1); repair(0, 398); warmth(398, 3);" + rules,
        };
        for (String state : states) {
            new GridTest(state).all();
        }
        due.end();
    }

    private void beginAgain() {
        x = new SeaWatches();
        model = new Model();
        for (Call call : story) {
            due.is(call + " of the story", call.on(x), answerOf(model, call));
        }
    }

    private void all() {
        shelf();
        comparisons();
        stretches();
        ships();
        loans();
        nothingChanged();
    }

    private void shelf() {
        int[] days = days();
        grid("days", new int[] {-1, 0, 1, 2, 99, 100, 101});
        grid("warmth", days, new int[] {-101, -100, -99, -51, -50, 0, 50, 51});
        grid("put", PLACES, new int[] {-1, 0, 1, 2, 3}, new int[] {-100, -51, -50, 0, 1, 50, 51});
        grid("take", PLACES);
        grid("holds", PLACES);
        grid("read", PLACES);
        grid("doubt", new int[] {-1, 0, 1, 9999, 10000});
        grid("count", new int[] {-1, 0, 1, 2, 3, 4, 5, 6, 7});
        grid("feed", new int[] {-1, 0, 1, 2, 3, 4, 5}, new int[] {0, 55, -1});
        grid("rule", new int[] {-1, 0, 1, 2});
    }

    private void comparisons() {
        int[] days = days();
        int[] known = {-2, -1, 0, today - 1, today, today + 1, 399, 400};
        grid("compare", PLACES, days, new int[] {-100001, -100000, 3, 100000, 100001}, new int[] {-1, 0, 1, 5, 6});
        grid("error", PLACES, days, known);
        grid("rate", PLACES, days, known);
        grid("repair", PLACES, days);
        grid("late", PLACES, days);
        grid("age", PLACES, days);
        grid("off", new int[] {-1, 0, 1, 5, 6}, days, days, new int[] {-10001, -10000, 0, 10000, 10001});
    }

    private void stretches() {
        int[] begins = {-1, 0, 1, Math.max(0, today - 2), 339, 340, 398, 399, 400};
        int[] ends = {-1, 0, 1, 2, 60, 61, 62, today, 399, 400};
        grid("law", PLACES, begins, ends);
        grid("jump", PLACES, begins, ends, new int[] {-1, 0, 7, 2000, 2001});
        grid("trial", PLACES, begins, ends);
        grid("order", PLACES, begins, ends);
        grid("changed", PLACES, begins, ends, new int[] {-2, -1, 0, today, 400});
    }

    private void ships() {
        int[] shown = {-2000001, -2000000, 2000000, 2000001};
        int[] errors = {-100001, -100000, 100000, 100001};
        int[] places = {-1, 0, 1, 2, 3, 4, 16};
        grid("sail", SHIPS, places, places, places);
        grid("carried", SHIPS, new int[] {-1, 0, 2, 3}, new int[] {-1, 0, 1, 2, 3, 4});
        grid("sight", SHIPS, days(), shown, new int[] {5, -2000001}, new int[] {5, 2000001});
        grid("told", SHIPS, new int[] {-1, 0, 1, 39, 40}, new int[] {-1, 0, 1, 2, 3, 4, 5, 6, 7, 8, 9, 10});
        grid("back", SHIPS, errors, new int[] {5, -100001}, new int[] {5, 100001});
        grid("state", SHIPS);
    }

    private void loans() {
        grid("lend", PLACES, new int[] {-1, 0, 19, 20, 100});
        grid("home", PLACES);
        grid("holder", PLACES, days());
        grid("away", PLACES);
    }

    private int[] days() {
        return new int[] {Integer.MIN_VALUE, -1, 0, today - 1, today, today + 1, 399, 400, Integer.MAX_VALUE};
    }

    private void grid(String name, int[]... choices) {
        int[] at = new int[choices.length];
        boolean more = true;
        while (more) {
            int[] arguments = new int[at.length];
            for (int i = 0; i < at.length; i++) {
                arguments[i] = choices[i][at[i]];
            }
            ask(Call.of(name, arguments));
            int i = 0;
            while (i < at.length && ++at[i] == choices[i].length) {
                at[i] = 0;
                i++;
            }
            more = i < at.length;
        }
    }

    private void ask(Call call) {
        int answer = call.on(x);
        due.is(call + " on day " + today, answer, answerOf(model, call));
        if (!call.changesNothing(answer)) {
            nothingChanged();
            beginAgain();
        } else {
            refused.add(call);
            if (refused.size() >= MOST_AT_ONCE) {
                nothingChanged();
                beginAgain();
            }
        }
    }

    private void nothingChanged() {
        String change = questions.firstChange(refused);
        if (change != null) {
            due.is("one from " + refused.get(0) + " to " + refused.get(refused.size() - 1) + " changed " + change, 1, 0);
        }
        refused.clear();
    }

    private static int answerOf(Model m, Call call) {
        int[] a = call.arguments;
        switch (call.name) {
            case "days": return m.days(a[0]);
            case "warmth": return m.warmth(a[0], a[1]);
            case "put": return m.put(a[0], a[1], a[2]);
            case "take": return m.take(a[0]);
            case "compare": return m.compare(a[0], a[1], a[2], a[3]);
            case "error": return m.errorOrRate(false, a[0], a[1], a[2]);
            case "rate": return m.errorOrRate(true, a[0], a[1], a[2]);
            case "repair": return m.mark(true, a[0], a[1]);
            case "late": return m.mark(false, a[0], a[1]);
            case "age": return m.age(a[0], a[1]);
            case "off": return m.off(a[0], a[1], a[2], a[3]);
            case "changed": return m.changed(a[0], a[1], a[2], a[3]);
            case "law": return m.law(a[0], a[1], a[2]);
            case "jump": return m.jump(a[0], a[1], a[2], a[3]);
            case "feed": return m.feed(a[0], a[1]);
            case "rule": return m.rule(a[0]);
            case "trial": return m.trialOrVoid(a[0], a[1], a[2]);
            case "order": return m.order(a[0], a[1], a[2]);
            case "sail": return m.sail(a[0], a[1], a[2], a[3]);
            case "carried": return m.carried(a[0], a[1], a[2]);
            case "sight": return m.sight(a[0], a[1], a[2], a[3], a[4]);
            case "told": return m.told(a[0], a[1], a[2]);
            case "back": return m.back(a[0], a[1], a[2], a[3]);
            case "state": return m.state(a[0]);
            case "lend": return m.lend(a[0], a[1]);
            case "home": return m.home(a[0]);
            case "holder": return m.holder(a[0], a[1]);
            case "away": return m.away(a[0]);
            case "holds": return m.holds(a[0]);
            case "read": return m.read(a[0]);
            case "doubt": return m.doubt(a[0]);
            case "count": return m.count(a[0]);
            default: throw new IllegalArgumentException("the model has no " + call);
        }
    }
}

import java.util.ArrayList;
import java.util.List;
import java.util.TreeSet;

/**
 * All that can be asked of an object after a run of calls. An object is used for at most 512 calls, and some questions
 * change what they ask for: so the run is made again for each set of questions.
 */
final class Questions {
    private static final int MOST_CALLS = 512;

    private final List<Call> ahead;
    private final int today;
    private final TreeSet<Integer> places = new TreeSet<>();
    private final TreeSet<Integer> days = new TreeSet<>();
    private final List<List<Call>> sets = new ArrayList<>();

    /** Asked are places and days that occur in the whole run. */
    Questions(List<Call> ahead, List<Call> wholeRun) {
        this.ahead = ahead;
        SeaWatches x = new SeaWatches();
        Call.all(ahead, x);
        today = x.count(1);
        for (Call call : wholeRun) {
            if (call.name.equals("put") && x.holds(call.arguments[0]) >= 0) {
                places.add(call.arguments[0]);
            }
            for (int argument : call.arguments) {
                if (argument >= 0 && argument < 400 && days.size() < 20) {
                    days.add(argument);
                }
            }
        }
        days.add(today);
        ofTheShelf();
        ofWatches();
        ofShips();
        thatChange();
    }

    private void ofTheShelf() {
        List<Call> set = new ArrayList<>();
        for (int what = 0; what <= 6; what++) {
            set.add(Call.of("count", what));
        }
        for (int place = 0; place < 16; place++) {
            set.add(Call.of("holds", place));
            set.add(Call.of("read", place));
            set.add(Call.of("away", place));
        }
        for (int i = 0; i < 10; i++) {
            set.add(Call.of("dealt", i));
        }
        sets.add(set);
    }

    private void ofWatches() {
        List<Call> set = new ArrayList<>();
        for (int place : places) {
            for (int day : days) {
                set.add(Call.of("error", place, day, -1));
                set.add(Call.of("error", place, day, 0));
                set.add(Call.of("error", place, day, today));
                set.add(Call.of("rate", place, day, -1));
                set.add(Call.of("age", place, day));
                set.add(Call.of("holder", place, day));
            }
            for (int p : new int[] {0, Math.max(0, Math.min(339, today - 50))}) {
                set.add(Call.of("law", place, p, p + 60));
                set.add(Call.of("terms", place, p, p + 60));
                set.add(Call.of("foretold", place, p, p + 60, 10, 5));
                set.add(Call.of("jump", place, p, p + 60, 0));
                set.add(Call.of("trial", place, p, p + 60));
                set.add(Call.of("order", place, p, p + 60));
                set.add(Call.of("changed", place, p, p + 60, 0));
            }
        }
        sets.add(set);
    }

    private void ofShips() {
        List<Call> set = new ArrayList<>();
        for (int ship = 0; ship < 5; ship++) {
            set.add(Call.of("state", ship));
            for (int i = 0; i < 3; i++) {
                for (int what = 0; what < 4; what++) {
                    set.add(Call.of("carried", ship, i, what));
                }
            }
            for (int sight : new int[] {0, 1, 2, 39}) {
                for (int what = 0; what < 10; what++) {
                    set.add(Call.of("told", ship, sight, what));
                }
            }
        }
        sets.add(set);
    }

    private void thatChange() {
        List<Call> tape = new ArrayList<>(List.of(Call.of("rule", 0)));
        List<Call> marks = new ArrayList<>();
        List<Call> loans = new ArrayList<>();
        for (int place : places) {
            tape.add(Call.of("trial", place, 0, 60));
            loans.add(Call.of("home", place));
            loans.add(Call.of("take", place));
            loans.add(Call.of("put", place, 0, 0));
            for (int day : days) {
                marks.add(Call.of("repair", place, day));
                marks.add(Call.of("late", place, day));
                marks.add(Call.of("compare", place, day, 0, 0));
            }
        }
        List<Call> drop = new ArrayList<>(List.of(Call.of("rule", 1)));
        List<Call> sea = new ArrayList<>();
        for (int ship = 0; ship < 5; ship++) {
            drop.add(Call.of("told", ship, 0, 1));
            sea.add(Call.of("sight", ship, today, 1, 2, 3));
            sea.add(Call.of("back", ship, 1, 2, 3));
            sea.add(Call.of("told", ship, 0, 4));
        }
        sets.addAll(List.of(tape, marks, loans, drop, sea));
        sets.add(List.of(Call.of("off", 1, 0, 0, 1), Call.of("doubt", 1), Call.of("feed", 1, 32), Call.of("days", 1)));
        for (int third = 0; third < 2; third++) {
            List<Call> list = new ArrayList<>(List.of(Call.of("deal", 3, 2 * third, 0), Call.of("deal", 3, 0, 0)));
            for (int i = 0; i < 9; i++) {
                list.add(Call.of("dealt", i));
            }
            sets.add(list);
        }
    }

    /** The first question that is answered otherwise after some more calls; null if there is none. */
    String firstChange(List<Call> more) {
        for (List<Call> set : sets) {
            int size = Math.max(1, MOST_CALLS - ahead.size() - more.size());
            for (int from = 0; from < set.size(); from += size) {
                String change = firstChange(more, set.subList(from, Math.min(set.size(), from + size)));
                if (change != null) {
                    return change;
                }
            }
        }
        return null;
    }

    private String firstChange(List<Call> more, List<Call> set) {
        SeaWatches without = new SeaWatches();
        SeaWatches with = new SeaWatches();
        Call.all(ahead, without);
        Call.all(ahead, with);
        Call.all(more, with);
        for (Call question : set) {
            int was = question.on(without);
            int is = question.on(with);
            if (was != is) {
                return question + " from " + was + " to " + is;
            }
        }
        return null;
    }
}

import java.util.ArrayDeque;
import java.util.ArrayList;
import java.util.Collections;
import java.util.Deque;
import java.util.HashMap;
import java.util.HashSet;
import java.util.List;
import java.util.Map;
import java.util.Set;
import java.util.TreeMap;

/**
 * The document once more, in maps and lists and without a thought of room or speed, for RandomRunsTest and GridTest.
 * Laws and deals are left to LawsTest and DealTest, which work them out in other ways.
 */
final class Model {
    static final int VOID = -2000000000;

    static final class Thing {
        int kind;
        int number;
        final Map<Integer, int[]> comparisons = new HashMap<>();
        final Set<Integer> repairs = new HashSet<>();
        final Set<Integer> lates = new HashSet<>();
        final TreeMap<Integer, Integer> holders = new TreeMap<>(Map.of(-1, -1));
    }

    static final class Voyage {
        int sailed;
        int back = -1;
        final int[][] carried = new int[3][5];
        final List<int[]> sights = new ArrayList<>();
    }

    int today = 0;
    final Map<Integer, Integer> warmths = new HashMap<>();
    final Map<Integer, Thing> shelf = new TreeMap<>();
    final List<int[]> offs = new ArrayList<>();
    final Map<Integer, Voyage> voyages = new HashMap<>();
    final StringBuilder tape = new StringBuilder();
    final String[] rules = new String[2];
    final List<Integer> doubts = new ArrayList<>();

    int refusal(boolean bad, int place) {
        if (bad || place < 0 || place > 15) {
            return -1;
        }
        return !shelf.containsKey(place) ? -2 : shelf.get(place).kind == 2 ? -3 : 0;
    }

    boolean past(int day) {
        return day >= 0 && day <= today;
    }

    boolean span(int p, int q) {
        return p >= 0 && q <= 399 && q - p >= 1 && q - p <= 60;
    }

    int days(int n) {
        if (n < 1 || n > 100 || today + n > 399) {
            return -1;
        }
        return today += n;
    }

    int warmth(int day, int w) {
        if (day < 0 || day > 399 || w != -100 && Math.abs(w) > 50) {
            return -1;
        }
        if (w == -100) {
            warmths.remove(day);
        } else {
            warmths.put(day, w);
        }
        return 1;
    }

    int put(int place, int kind, int w) {
        if (place < 0 || place > 15 || kind < 0 || kind > 2 || kind == 0 && w != 0 || kind == 1 && Math.abs(w) > 50) {
            return -1;
        }
        if (shelf.containsKey(place)) {
            return -4;
        }
        Thing thing = new Thing();
        thing.kind = kind;
        thing.number = w;
        shelf.put(place, thing);
        return 1;
    }

    int take(int place) {
        int refusal = refusal(false, place);
        if (refusal == -1 || refusal == -2) {
            return refusal;
        }
        if (refusal == 0 && holderNow(place) != -1) {
            return -4;
        }
        shelf.remove(place);
        return 1;
    }

    int holderNow(int place) {
        return shelf.get(place).holders.lastEntry().getValue();
    }

    int compare(int place, int day, int error, int source) {
        int refusal = refusal(!past(day) || Math.abs(error) > 100000 || source < 0 || source > 5, place);
        if (refusal != 0) {
            return refusal;
        }
        Thing watch = shelf.get(place);
        if (watch.comparisons.containsKey(day) || watch.holders.floorEntry(day).getValue() != -1) {
            return -4;
        }
        watch.comparisons.put(day, new int[] {error, source});
        return 1;
    }

    Integer error(Thing watch, int day, int k) {
        int[] told = watch.comparisons.get(day);
        if (told == null) {
            return null;
        }
        int error = told[0];
        for (int[] off : offs) {
            if (off[0] == told[1] && off[1] <= day && off[2] >= day && (k == -1 || off[4] <= k)) {
                error -= off[3];
            }
        }
        return error;
    }

    Integer rate(Thing watch, int day, int k) {
        Integer one = error(watch, day, k);
        Integer next = error(watch, day + 1, k);
        if (one == null || next == null || Math.abs(next - one) > 999 || watch.repairs.contains(day + 1)
                || watch.lates.contains(day) || watch.lates.contains(day + 1)) {
            return null;
        }
        return next - one;
    }

    int errorOrRate(boolean rate, int place, int day, int k) {
        if (refusal(day < 0 || day > 399 || k < -1 || k > 399, place) != 0) {
            return VOID;
        }
        Integer answer = rate ? rate(shelf.get(place), day, k) : error(shelf.get(place), day, k);
        return answer == null ? VOID : answer;
    }

    int mark(boolean repair, int place, int day) {
        int refusal = refusal(!past(day), place);
        if (refusal != 0) {
            return refusal;
        }
        return (repair ? shelf.get(place).repairs : shelf.get(place).lates).add(day) ? 1 : 0;
    }

    int age(int place, int day) {
        int refusal = refusal(day < 0 || day > 399, place);
        if (refusal != 0) {
            return refusal;
        }
        int last = -1;
        for (int repaired : shelf.get(place).repairs) {
            if (repaired <= day) {
                last = Math.max(last, repaired);
            }
        }
        return last == -1 ? day : day - last;
    }

    int off(int signal, int a, int b, int v) {
        if (signal < 1 || signal > 5 || a < 0 || a > b || b > 399 || Math.abs(v) > 10000) {
            return -1;
        }
        if (offs.size() == 60) {
            return -5;
        }
        offs.add(new int[] {signal, a, b, v, today});
        return offs.size();
    }

    int changed(int place, int p, int q, int k) {
        int refusal = refusal(!span(p, q) || k < -1 || k > 399, place);
        if (refusal != 0) {
            return refusal;
        }
        int changes = 0;
        for (int day = p; day < q; day++) {
            changes += errorOrRate(true, place, day, k) == errorOrRate(true, place, day, -1) ? 0 : 1;
        }
        return changes;
    }

    TreeMap<Integer, Integer> rates(int place, int p, int q) {
        TreeMap<Integer, Integer> rates = new TreeMap<>();
        for (int day = p; day < q; day++) {
            Integer rate = rate(shelf.get(place), day, -1);
            if (rate != null) {
                rates.put(day, rate);
            }
        }
        return rates;
    }

    Integer warmthFor(int place, int day) {
        return shelf.get(place).kind == 1 ? Integer.valueOf(shelf.get(place).number) : warmths.get(day);
    }

    int law(int place, int p, int q) {
        int refusal = refusal(!span(p, q), place);
        if (refusal != 0) {
            return refusal;
        }
        return (int) rates(place, p, q).keySet().stream().filter(day -> warmthFor(place, day) != null).count();
    }

    int jump(int place, int p, int q, int bound) {
        int refusal = refusal(!span(p, q) || bound < 0 || bound > 2000, place);
        if (refusal != 0) {
            return refusal;
        }
        TreeMap<Integer, Integer> rates = rates(place, p, q);
        if (rates.isEmpty()) {
            return -4;
        }
        List<Integer> sorted = new ArrayList<>(rates.values());
        Collections.sort(sorted);
        int middle = sorted.get((sorted.size() - 1) / 2);
        int farthest = rates.values().stream().mapToInt(rate -> Math.abs(rate - middle)).max().getAsInt();
        for (int day : rates.keySet()) {
            if (Math.abs(rates.get(day) - middle) == farthest) {
                return farthest > bound ? day : -4;
            }
        }
        throw new IllegalStateException();
    }

    int feed(int n, int v) {
        if (n < 1 || n > 4) {
            return -1;
        }
        if (tape.length() + n > 120) {
            return -5;
        }
        for (int i = 0; i < n; i++) {
            tape.append((char) (v >>> 8 * i & 255));
        }
        return tape.length();
    }

    int rule(int which) {
        if (which < 0 || which > 1) {
            return -1;
        }
        String text = tape.toString();
        tape.setLength(0);
        Map<String, Integer> names = new HashMap<>();
        String all = which == 0 ? "days least most span gaps jump drift sum warm" : "off doubt days which";
        for (String name : all.split(" ")) {
            names.put(name, 1);
        }
        Text read = new Text(text, names);
        if (read.fault >= 0) {
            return -100 - read.fault;
        }
        rules[which] = text;
        return 1;
    }

    Integer trial(int place, int p, int q) {
        TreeMap<Integer, Integer> rates = rates(place, p, q);
        if (rates.isEmpty() || rules[0] == null) {
            return null;
        }
        List<Integer> list = new ArrayList<>(rates.values());
        Map<String, Integer> names = new HashMap<>();
        names.put("days", list.size());
        names.put("least", Collections.min(list));
        names.put("most", Collections.max(list));
        names.put("span", Collections.max(list) - Collections.min(list));
        names.put("gaps", q - p - list.size());
        int jump = 0;
        for (int i = 0; i + 1 < list.size(); i++) {
            jump = Math.max(jump, Math.abs(list.get(i + 1) - list.get(i)));
        }
        names.put("jump", jump);
        names.put("drift", list.get(list.size() - 1) - list.get(0));
        names.put("sum", list.stream().mapToInt(x -> x).sum());
        List<Integer> warm = new ArrayList<>();
        for (int day : rates.keySet()) {
            if (warmthFor(place, day) != null) {
                warm.add(warmthFor(place, day));
            }
        }
        names.put("warm", warm.isEmpty() ? 0 : Collections.max(warm) - Collections.min(warm));
        return new Text(rules[0], names).value;
    }

    int trialOrVoid(int place, int p, int q) {
        Integer trial = refusal(!span(p, q), place) != 0 ? null : trial(place, p, q);
        return trial == null ? VOID : trial;
    }

    int order(int place, int p, int q) {
        int refusal = refusal(!span(p, q), place);
        if (refusal != 0) {
            return refusal;
        }
        Integer own = trial(place, p, q);
        if (own == null) {
            return -4;
        }
        int order = 1;
        for (int other : shelf.keySet()) {
            Integer its = shelf.get(other).kind == 2 ? null : trial(other, p, q);
            order += its != null && its < own ? 1 : 0;
        }
        return order;
    }

    int sail(int ship, int a, int b, int c) {
        int[] places = {a, b, c};
        boolean bad = ship < 0 || ship > 4 || a == b || b == c || a == c;
        for (int place : places) {
            bad |= place < 0 || place > 15;
        }
        if (bad) {
            return -1;
        }
        for (int place : places) {
            if (refusal(false, place) != 0) {
                return refusal(false, place);
            }
        }
        boolean not = voyages.containsKey(ship) && voyages.get(ship).back < 0;
        for (int place : places) {
            not |= holderNow(place) != -1 || !shelf.get(place).comparisons.containsKey(today)
                    || rates(place, today - 30, today).size() < 2;
        }
        if (not) {
            return -4;
        }
        Voyage voyage = new Voyage();
        voyage.sailed = today;
        for (int i = 0; i < 3; i++) {
            List<Integer> rates = new ArrayList<>(rates(places[i], today - 30, today).values());
            int sum = rates.stream().mapToInt(x -> x).sum();
            int span = Collections.max(rates) - Collections.min(rates);
            voyage.carried[i] = new int[] {places[i], error(shelf.get(places[i]), today, -1),
                (int) Math.floor((double) sum / rates.size()), 1 + span / 2, 0};
            shelf.get(places[i]).holders.put(today, 100 + ship);
        }
        voyages.put(ship, voyage);
        return 1;
    }

    int carried(int ship, int i, int what) {
        boolean bad = ship < 0 || ship > 4 || i < 0 || i > 2 || what < 0 || what > 3;
        return bad || !voyages.containsKey(ship) ? VOID : voyages.get(ship).carried[i][what];
    }

    int sight(int ship, int day, int a, int b, int c) {
        if (ship < 0 || ship > 4 || !past(day) || Math.abs(a) > 2000000 || Math.abs(b) > 2000000
                || Math.abs(c) > 2000000) {
            return -1;
        }
        Voyage voyage = voyages.get(ship);
        if (voyage == null) {
            return -4;
        }
        int count = voyage.sights.size();
        if (day <= voyage.sailed || count > 0 && day < voyage.sights.get(count - 1)[0]) {
            return -1;
        }
        if (voyage.back >= 0) {
            return -4;
        }
        if (count == 40) {
            return -5;
        }
        voyage.sights.add(new int[] {day, a, b, c});
        return count;
    }

    int told(int ship, int sight, int what) {
        Voyage voyage = voyages.get(ship);
        if (voyage == null || sight < 0 || sight >= voyage.sights.size() || what < 0 || what > 9) {
            return VOID;
        }
        int[] seen = voyage.sights.get(sight);
        int n = seen[0] - voyage.sailed;
        int whole = voyage.back - voyage.sailed;
        int[] times = new int[3];
        int[] widths = new int[3];
        for (int i = 0; i < 3; i++) {
            int[] own = voyage.carried[i];
            double going = voyage.back < 0 ? own[2] * n : Math.floor((double) n * (own[4] - own[1]) / whole);
            times[i] = seen[i + 1] - own[1] - (int) going;
            widths[i] = own[3] * (voyage.back < 0 ? n : Math.min(n, whole - n)) + 5;
        }
        int dropped = dropped(voyage, n, times);
        int begin = Integer.MIN_VALUE;
        int end = Integer.MAX_VALUE;
        for (int i = 0; i < 3; i++) {
            if (i != dropped) {
                begin = Math.max(begin, times[i] - widths[i]);
                end = Math.min(end, times[i] + widths[i]);
            }
        }
        int[] answers = {seen[0], dropped, begin <= end ? begin : VOID, begin <= end ? end : VOID,
            times[0], times[1], times[2], widths[0], widths[1], widths[2]};
        return answers[what];
    }

    int dropped(Voyage voyage, int n, int[] times) {
        int dropped = -1;
        int most = 0;
        for (int i = 0; i < 3 && rules[1] != null; i++) {
            int others = times[0] + times[1] + times[2] - times[i];
            int mean = (int) Math.floor(others / 2.0);
            int given = new Text(rules[1], Map.of("off", Math.abs(times[i] - mean), "doubt", voyage.carried[i][3],
                    "days", n, "which", i)).value;
            if (given > most) {
                most = given;
                dropped = i;
            }
        }
        return dropped;
    }

    int back(int ship, int a, int b, int c) {
        int[] errors = {a, b, c};
        if (ship < 0 || ship > 4 || Math.abs(a) > 100000 || Math.abs(b) > 100000 || Math.abs(c) > 100000) {
            return -1;
        }
        Voyage voyage = voyages.get(ship);
        if (voyage == null || voyage.back >= 0 || voyage.sailed == today) {
            return -4;
        }
        voyage.back = today;
        for (int i = 0; i < 3; i++) {
            Thing watch = shelf.get(voyage.carried[i][0]);
            watch.comparisons.put(today, new int[] {errors[i], 0});
            watch.holders.put(today, -1);
            voyage.carried[i][4] = errors[i];
        }
        return today - voyage.sailed;
    }

    int state(int ship) {
        return ship < 0 || ship > 4 ? -1 : !voyages.containsKey(ship) ? 0 : voyages.get(ship).back < 0 ? 1 : 2;
    }

    int lend(int place, int person) {
        int refusal = refusal(person < 0 || person > 19, place);
        if (refusal != 0 || holderNow(place) != -1) {
            return refusal != 0 ? refusal : -4;
        }
        shelf.get(place).holders.put(today, person);
        return 1;
    }

    int home(int place) {
        int refusal = refusal(false, place);
        if (refusal != 0 || holderNow(place) == -1 || holderNow(place) >= 100) {
            return refusal != 0 ? refusal : -4;
        }
        shelf.get(place).holders.put(today, -1);
        return 1;
    }

    int holder(int place, int day) {
        return refusal(!past(day), place) != 0 ? VOID : shelf.get(place).holders.floorEntry(day).getValue();
    }

    int away(int place) {
        int refusal = refusal(false, place);
        if (refusal != 0) {
            return refusal;
        }
        int away = 0;
        for (int day = 0; day <= today; day++) {
            away += holder(place, day) == -1 ? 0 : 1;
        }
        return away;
    }

    int holds(int place) {
        return place < 0 || place > 15 ? -1 : shelf.containsKey(place) ? shelf.get(place).kind : -5;
    }

    int read(int place) {
        return holds(place) < 1 ? VOID : shelf.get(place).number;
    }

    int doubt(int v) {
        if (v < 1 || v > 9999) {
            return -1;
        }
        if (doubts.size() == 9) {
            return -5;
        }
        doubts.add(v);
        return doubts.size();
    }

    int count(int what) {
        switch (what) {
            case 0: return (int) shelf.values().stream().filter(thing -> thing.kind != 2).count();
            case 1: return today;
            case 2: return offs.size();
            case 3: return (int) voyages.values().stream().filter(voyage -> voyage.back == -1).count();
            case 4: return tape.length();
            case 5: return (int) shelf.values().stream().filter(thing -> thing.kind == 2).count();
            case 6: return doubts.size();
            default: return -1;
        }
    }

    /** A text worked out by two stacks as it is read: its value, or its fault. */
    static final class Text {
        int fault = -1;
        int value = 0;
        private final Deque<String> open = new ArrayDeque<>();
        private final Deque<Integer> values = new ArrayDeque<>();

        Text(String text, Map<String, Integer> names) {
            boolean operandNext = true;
            boolean negationMay = true;
            int at = 0;
            while (fault < 0) {
                while (at < text.length() && text.charAt(at) == ' ') {
                    at++;
                }
                if (at == text.length()) {
                    break;
                }
                String word = wordAt(text, at);
                if (operandNext) {
                    operandNext = readAhead(word, negationMay, names, at);
                    negationMay = operandNext && (word.equals("(") || word.equals("not"));
                } else {
                    operandNext = readBehind(word, at);
                    negationMay = word.equals("or") || word.equals("and");
                }
                at += word.length();
            }
            if (fault < 0) {
                closeDownTo(0);
                fault = operandNext || !open.isEmpty() ? text.length() : -1;
                value = fault < 0 ? values.pop() : 0;
            }
        }

        private static String wordAt(String text, int at) {
            int end = at + 1;
            for (String set : List.of("abcdefghijklmnopqrstuvwxyz", "0123456789")) {
                if (set.indexOf(text.charAt(at)) >= 0) {
                    while (end < text.length() && set.indexOf(text.charAt(end)) >= 0) {
                        end++;
                    }
                }
            }
            return text.substring(at, end);
        }

        /** Whether an operand is due still. */
        private boolean readAhead(String word, boolean negationMay, Map<String, Integer> names, int at) {
            boolean number = word.matches("[0-9]{1,5}");
            if (number || names.containsKey(word)) {
                values.push(number ? Integer.valueOf(word) : names.get(word));
                closeTight();
                return false;
            }
            boolean opener = word.equals("(") || word.equals("abs") || word.equals("-")
                    || word.equals("not") && negationMay;
            long count = open.stream().filter(one -> List.of("(", "abs", "neg", "not").contains(one)).count();
            if (!opener || count >= 15) {
                fault = at;
            }
            open.push(word.equals("-") ? "neg" : word);
            return true;
        }

        /** Whether an operand is due next. */
        private boolean readBehind(String word, int at) {
            int binding = word.equals(")") ? 0 : binding(word);
            if (binding < 0 || word.equals("not") || word.equals("abs") || word.equals("(")) {
                fault = at;
                return false;
            }
            if (binding == 4) {
                closeDownTo(5);
                if (!open.isEmpty() && binding(open.peek()) == 4) {
                    fault = at;
                    return false;
                }
            }
            closeDownTo(Math.max(1, binding));
            if (!word.equals(")")) {
                open.push(word);
                return true;
            }
            if (open.isEmpty()) {
                fault = at;
            } else {
                open.pop();
                closeTight();
            }
            return false;
        }

        private static int binding(String word) {
            switch (word) {
                case "(": return 0;
                case "or": return 1;
                case "and": return 2;
                case "not": return 3;
                case "<": case "=": case ">": return 4;
                case "+": case "-": return 5;
                case "*": case "/": return 6;
                case "neg": case "abs": return 7;
                default: return -1;
            }
        }

        private void closeTight() {
            closeDownTo(7);
        }

        private void closeDownTo(int binding) {
            while (!open.isEmpty() && !open.peek().equals("(") && binding(open.peek()) >= binding
                    && !values.isEmpty()) {
                close(open.pop());
            }
        }

        private void close(String word) {
            if (binding(word) != 3 && binding(word) != 7 && values.size() < 2) {
                return;
            }
            int y = values.pop();
            switch (word) {
                case "not": values.push(y == 0 ? 1 : 0); return;
                case "neg": values.push(-y); return;
                case "abs": values.push(Math.abs(y)); return;
                default: break;
            }
            int x = values.pop();
            switch (word) {
                case "or": values.push(x != 0 | y != 0 ? 1 : 0); return;
                case "and": values.push(x != 0 & y != 0 ? 1 : 0); return;
                case "<": values.push(x < y ? 1 : 0); return;
                case "=": values.push(x == y ? 1 : 0); return;
                case ">": values.push(x > y ? 1 : 0); return;
                case "+": values.push(x + y); return;
                case "-": values.push(x - y); return;
                case "*": values.push(x * y); return;
                default: values.push(y == 0 ? 0 : x / y); return;
            }
        }
    }
}

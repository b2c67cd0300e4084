import java.util.ArrayList;
import java.util.List;
import java.util.Map;

/**
 * A run of calls on a new object, written as text: calls are parted by ';' or lines, and the answer that is due stands
 * behind '='. A call without one only must not be refused. tape 'text' feeds a text. Of each call that was refused, or
 * only asks, it is looked at whether anything has changed.
 */
final class Script {
    private static final Map<String, Integer> WORDS = Map.of("BAD", -1, "MISSING", -2, "KIND", -3, "NOT", -4,
            "FULL", -5, "VOID", -2000000000, "MIN", Integer.MIN_VALUE, "MAX", Integer.MAX_VALUE);

    private final List<Call> calls = new ArrayList<>();

    Script(String text) {
        for (String one : text.split("[;\n]")) {
            if (one.isBlank()) {
                continue;
            }
            if (one.strip().startsWith("tape ")) {
                addTape(one.substring(one.indexOf('\'') + 1, one.lastIndexOf('\'')));
            } else {
                addCall(one.strip());
            }
        }
    }

    private void addTape(String text) {
        for (int i = 0; i < text.length(); i += 4) {
            int n = Math.min(4, text.length() - i);
            calls.add(Call.of("feed", n, Due.packed(text, i, n)));
        }
    }

    private void addCall(String one) {
        int open = one.indexOf('(');
        int close = one.lastIndexOf(')');
        String[] parts = one.substring(open + 1, close).split(",");
        int[] arguments = new int[parts.length];
        for (int i = 0; i < parts.length; i++) {
            arguments[i] = number(parts[i].strip());
        }
        int equals = one.indexOf('=', close);
        Integer due = equals < 0 ? null : number(one.substring(equals + 1).strip());
        calls.add(new Call(one.substring(0, open), due, arguments));
    }

    static int number(String word) {
        return WORDS.containsKey(word) ? WORDS.get(word) : Integer.parseInt(word);
    }

    List<Call> calls() {
        return calls;
    }

    void run(Due due) {
        SeaWatches x = new SeaWatches();
        for (int i = 0; i < calls.size(); i++) {
            Call call = calls.get(i);
            int answer = call.on(x);
            if (call.due != null) {
                due.is("call " + i + ", " + call, answer, call.due);
            } else if (call.isRefusal(answer) || answer <= -100 && call.name.equals("rule")) {
                due.is("call " + i + ", " + call + ", not to be refused,", answer, 1);
            }
            if (call.changesNothing(answer)) {
                nothingChanged(due, i);
            }
        }
    }

    private void nothingChanged(Due due, int at) {
        List<Call> ahead = calls.subList(0, at);
        String change = new Questions(ahead, calls).firstChange(calls.subList(at, at + 1));
        if (change != null) {
            due.is("call " + at + ", " + calls.get(at) + " changed " + change, 1, 0);
        }
    }
}

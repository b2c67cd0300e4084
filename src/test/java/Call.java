import java.lang.reflect.InvocationTargetException;
import java.lang.reflect.Method;
import java.util.Arrays;
import java.util.HashMap;
import java.util.List;
import java.util.Map;
import java.util.Set;

/** One call of the face, by its name, and the answer that is due (null: any that is no refusal). */
final class Call {
    private static final Map<String, Method> FACE = new HashMap<>();
    private static final Set<String> CHANGING = Set.of("days", "warmth", "put", "take", "compare", "repair", "late",
            "off", "feed", "rule", "sail", "sight", "back", "doubt", "deal", "lend", "home");

    static {
        for (Method method : SeaWatches.class.getMethods()) {
            if (method.getDeclaringClass() == SeaWatches.class) {
                FACE.put(method.getName(), method);
            }
        }
    }

    final String name;
    final int[] arguments;
    final Integer due;

    Call(String name, Integer due, int... arguments) {
        this.name = name;
        this.due = due;
        this.arguments = arguments;
        if (!FACE.containsKey(name)) {
            throw new IllegalArgumentException("no such call: " + this);
        }
    }

    static Call of(String name, int... arguments) {
        return new Call(name, null, arguments);
    }

    /** Of all calls of the face. */
    static Set<String> names() {
        return FACE.keySet();
    }

    int on(SeaWatches x) {
        Object[] boxed = new Object[arguments.length];
        for (int i = 0; i < boxed.length; i++) {
            boxed[i] = arguments[i];
        }
        try {
            return (Integer) FACE.get(name).invoke(x, boxed);
        } catch (IllegalAccessException | InvocationTargetException e) {
            throw new IllegalStateException(this + " threw", e);
        }
    }

    /** Calls that only ask change nothing; the others change nothing if they are refused. */
    boolean changesNothing(int answer) {
        return !CHANGING.contains(name) || isRefusal(answer);
    }

    boolean isRefusal(int answer) {
        return CHANGING.contains(name) && answer < 0 && answer >= SeaWatches.FULL;
    }

    static void all(List<Call> calls, SeaWatches x) {
        for (Call call : calls) {
            call.on(x);
        }
    }

    @Override
    public String toString() {
        String list = Arrays.toString(arguments);
        return name + "(" + list.substring(1, list.length() - 1) + ")";
    }
}

import java.lang.reflect.InvocationTargetException;
import java.lang.reflect.Method;
import java.lang.reflect.Modifier;
import java.util.ArrayList;
import java.util.Comparator;
import java.util.List;
import java.util.Random;

/** Any arguments in any state: no call throws, each ends, and the same calls give the same answers. */
public final class ExtremesTest {
    private static final int[] NUMBERS = {
        Integer.MIN_VALUE, Integer.MIN_VALUE + 1, -2000000001, -2000000, -100001, -10001, -101, -100, -51, -50, -2, -1,
        0, 1, 2, 3, 4, 5, 6, 9, 15, 16, 19, 20, 30, 40, 50, 51, 60, 61, 99, 100, 101, 255, 398, 399, 400, 401, 999,
        1000, 2000, 2001, 9999, 10000, 10001, 100000, 100001, 2000000, 2000001, 0x28282828, 0x31203130,
        Integer.MAX_VALUE - 1, Integer.MAX_VALUE};

    public static void main(String[] args) throws IllegalAccessException {
        List<Method> calls = new ArrayList<>();
        for (Method m : SeaWatches.class.getDeclaredMethods()) {
            if (Modifier.isPublic(m.getModifiers())) {
                calls.add(m);
            }
        }
        calls.sort(Comparator.comparing(Method::getName));
        int wrong = 0;
        for (int seed = 0; seed < 1500 && wrong < 20; seed++) {
            wrong += run(calls, seed);
        }
        System.out.println("ExtremesTest: " + wrong + " wrong");
        if (wrong != 0) {
            System.exit(1);
        }
    }

    private static int run(List<Method> calls, int seed) throws IllegalAccessException {
        Random random = new Random(seed);
        SeaWatches x = new SeaWatches();
        SeaWatches again = new SeaWatches();
        int wrong = 0;
        for (int i = 0; i < 512; i++) {
            Method call = calls.get(random.nextInt(calls.size()));
            Object[] arguments = new Object[call.getParameterCount()];
            for (int j = 0; j < arguments.length; j++) {
                arguments[j] = random.nextInt(3) == 0 ? NUMBERS[random.nextInt(NUMBERS.length)] : random.nextInt(4);
            }
            try {
                Object one = call.invoke(x, arguments);
                Object two = call.invoke(again, arguments);
                if (!one.equals(two)) {
                    wrong++;
                    System.out.println("seed " + seed + ": " + call.getName() + " answered " + one + ", then " + two);
                }
            } catch (InvocationTargetException e) {
                wrong++;
                System.out.println("seed " + seed + ": " + call.getName() + " threw " + e.getCause());
            }
        }
        return wrong;
    }
}

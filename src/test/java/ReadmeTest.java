import java.io.IOException;
import java.nio.file.Files;
import java.nio.file.Path;
import java.util.Arrays;
import java.util.Set;
import java.util.TreeSet;
import java.util.regex.Matcher;
import java.util.regex.Pattern;

/** README.md shows every call of the face, and each answers what stands behind it there. */
public final class ReadmeTest {
    private static final Due due = new Due("ReadmeTest");
    private static final Pattern CALL = Pattern.compile("x\\.(\\w+)\\((.*)\\); *// (-?\\w+)(:.*)?");
    private static final Pattern BYTE = Pattern.compile("'(.)'( << (\\d+))?");

    public static void main(String[] args) throws IOException {
        Set<String> shown = new TreeSet<>();
        SeaWatches x = null;
        for (String line : Files.readAllLines(Path.of("README.md"))) {
            Matcher call = CALL.matcher(line);
            if (line.equals("SeaWatches x = new SeaWatches();")) {
                x = new SeaWatches();
            } else if (call.matches()) {
                shown.add(call.group(1));
                due.is(line, made(call).on(x), Script.number(call.group(3)));
            } else if (line.startsWith("x.")) {
                due.is("a line of README.md that is no call with its answer: " + line, 1, 0);
            }
        }
        for (String name : Call.names()) {
            due.is("README.md shows " + name, shown.contains(name) ? 1 : 0, 1);
        }
        due.end();
    }

    private static Call made(Matcher call) {
        return Call.of(call.group(1), Arrays.stream(call.group(2).split(", ")).mapToInt(ReadmeTest::argument).toArray());
    }

    /** A number, or bytes as 'a' | 'b' << 8. */
    private static int argument(String text) {
        if (!text.startsWith("'")) {
            return Script.number(text);
        }
        int v = 0;
        for (String part : text.split(" \\| ")) {
            Matcher one = BYTE.matcher(part);
            if (!one.matches()) {
                throw new IllegalStateException("no byte: " + part);
            }
            v |= one.group(1).charAt(0) << (one.group(3) == null ? 0 : Integer.parseInt(one.group(3)));
        }
        return v;
    }
}

import java.io.IOException;
import java.lang.reflect.Constructor;
import java.lang.reflect.Field;
import java.lang.reflect.Method;
import java.lang.reflect.Modifier;
import java.nio.file.Files;
import java.nio.file.Path;
import java.util.ArrayList;
import java.util.HashSet;
import java.util.List;
import java.util.Set;
import java.util.TreeSet;
import java.util.regex.Matcher;
import java.util.regex.Pattern;

/** The class's face is the document's, and the file keeps to the rules that can be seen in its text. */
public final class FaceTest {
    private static final String FACE = "days/1 warmth/2 put/3 take/1 holds/1 read/1 compare/4 error/3 rate/3 repair/2 "
            + "late/2 age/2 off/4 changed/4 law/3 terms/3 foretold/5 jump/4 feed/2 rule/1 trial/3 order/3 sail/4 "
            + "carried/3 sight/5 told/3 back/4 state/1 doubt/1 deal/3 dealt/1 lend/2 home/1 holder/2 away/1 count/1";
    private static final String CONSTANTS = "BAD=-1 FULL=-5 KIND=-3 MISSING=-2 NOT=-4 VOID=-2000000000";
    private static final String[] FORBIDDEN = {
        "throw", "throws", "try", "catch", "synchronized", "assert", "import", "package", "protected", "System",
        "Random", "Thread", "\\w+Exact", "hashCode", "toString", "goto", "native", "volatile", "var"};

    public static void main(String[] args) throws IOException, IllegalAccessException {
        List<String> faults = new ArrayList<>();
        members(faults);
        nested(faults);
        text(faults, Files.readString(Path.of("src/main/java/SeaWatches.java")));
        for (String fault : faults) {
            System.out.println(fault);
        }
        System.out.println("FaceTest: " + faults.size() + " wrong");
        if (!faults.isEmpty()) {
            System.exit(1);
        }
    }

    private static void members(List<String> faults) throws IllegalAccessException {
        Class<?> c = SeaWatches.class;
        if (!Modifier.isPublic(c.getModifiers()) || !Modifier.isFinal(c.getModifiers())) {
            faults.add("the class is not public and final");
        }
        Set<String> seen = new TreeSet<>();
        for (Method m : c.getDeclaredMethods()) {
            if (Modifier.isPublic(m.getModifiers())) {
                seen.add(m.getName() + "/" + m.getParameterCount());
                if (m.getReturnType() != int.class || Modifier.isStatic(m.getModifiers())) {
                    faults.add("form of " + m);
                }
            } else if (!Modifier.isPrivate(m.getModifiers()) && !m.isSynthetic()) {
                faults.add("neither public nor private: " + m);
            }
        }
        if (!seen.equals(new TreeSet<>(List.of(FACE.split(" "))))) {
            faults.add("public methods are " + seen);
        }
        Set<String> constants = new TreeSet<>();
        for (Field f : c.getDeclaredFields()) {
            if (Modifier.isPublic(f.getModifiers())) {
                constants.add(f.getName() + "=" + f.getInt(null));
            } else if (!Modifier.isPrivate(f.getModifiers())) {
                faults.add("neither public nor private: " + f);
            }
        }
        if (!String.join(" ", constants).equals(CONSTANTS)) {
            faults.add("constants are " + constants);
        }
        Constructor<?>[] made = c.getDeclaredConstructors();
        if (made.length != 1 || made[0].getParameterCount() != 0 || !Modifier.isPublic(made[0].getModifiers())) {
            faults.add("constructors");
        }
    }

    private static void nested(List<String> faults) {
        Set<String> publicNames = new HashSet<>();
        for (String one : FACE.split(" ")) {
            publicNames.add(one.substring(0, one.indexOf('/')));
        }
        Class<?>[] inside = SeaWatches.class.getDeclaredClasses();
        if (inside.length > 11) {
            faults.add("rule 11: classes");
        }
        List<Class<?>> all = new ArrayList<>(List.of(inside));
        all.add(SeaWatches.class);
        for (Class<?> c : all) {
            int fields = 0;
            for (Field f : c.getDeclaredFields()) {
                if (!Modifier.isStatic(f.getModifiers())) {
                    fields++;
                } else if (!Modifier.isFinal(f.getModifiers())) {
                    faults.add("rule 5: " + f);
                }
            }
            if (fields > 20) {
                faults.add("rule 11: fields of " + c);
            }
            for (Method m : c.getDeclaredMethods()) {
                if (!Modifier.isPublic(m.getModifiers()) && publicNames.contains(m.getName())) {
                    faults.add("rule 1: a public one's name: " + m);
                }
                if (m.getParameterCount() > 7) {
                    faults.add("rule 11: parameters of " + m);
                }
            }
        }
    }

    private static void text(List<String> faults, String source) {
        String code = source.replaceAll("(?s)/\\*.*?\\*/", "").replaceAll("//[^\n]*", "")
                .replaceAll("\"[^\"\n]*\"", "\"\"");
        for (String word : FORBIDDEN) {
            if (Pattern.compile("\\b" + word + "\\b").matcher(code).find()) {
                faults.add("forbidden in the file: " + word);
            }
        }
        for (String sign : List.of("->", "::", "new Object", "%s")) {
            if (code.contains(sign)) {
                faults.add("forbidden in the file: " + sign);
            }
        }
        for (char c : source.toCharArray()) {
            if (c > 126) {
                faults.add("a sign beyond 126");
                break;
            }
        }
        int line = 0;
        int start = 0;
        Matcher ends = Pattern.compile("^( {4}| {8})(\\S.*\\) \\{|\\})$").matcher("");
        for (String one : source.split("\n")) {
            line++;
            ends.reset(one);
            if (ends.matches()) {
                if (one.trim().equals("}") && start > 0 && line - start > 60) {
                    faults.add("rule 11: the method ending on line " + line + " is long");
                }
                start = one.trim().equals("}") ? 0 : line;
            }
        }
    }
}

import java.lang.reflect.Constructor;
import java.lang.reflect.Field;
import java.lang.reflect.Method;
import java.lang.reflect.Modifier;
import java.nio.file.Files;
import java.nio.file.Path;
import java.util.Arrays;
import java.util.Set;
import java.util.TreeSet;
import java.util.regex.Pattern;

/** The class has the document's face and no more, and no word that ../shared/LANGUAGE.md rules out. */
public final class FiveDiceFace {
    private static final Path SOURCE = Path.of("src/main/java/FiveDice.java");
    private static final Set<String> METHODS = new TreeSet<>(Arrays.asList(
        "int dice(int,int,int)", "int row(int,int,int)", "int begin()", "int end()", "int fall(int)", "int draw(int)",
        "int hold(int)", "int fill(int)", "long unit()", "long worth()", "long worthOf(int)", "int bestHold()",
        "int bestRow()", "long chance(int)", "long luck()", "long slip()", "int points(int,int)", "int ways(int)",
        "int filled(int)", "int count(int)"));
    private static final Set<String> CONSTANTS = Set.of("NONE", "UNKNOWN", "OUTSIDE", "NOT", "LARGE", "FULL");
    private static final String[] RULED_OUT = {"\\bthrow\\b", "\\btry\\b", "\\bcatch\\b", "\\bsynchronized\\b",
        "\\bassert\\b", "->", "::", "Exact\\b", "\\bdouble\\b", "\\bfloat\\b", "static \\{", "\\bpackage\\b",
        "import (?!java\\.util\\.(Arrays|ArrayList|List|Iterator);)", "\\bSystem\\.(?!arraycopy\\b)"};
    private static int wrong = 0;

    private static void fault(String what) {
        wrong++;
        System.out.println(what);
    }

    public static void main(String[] args) throws Exception {
        methods();
        fields();
        constructors();
        nested();
        words(Files.readString(SOURCE));
        System.out.println(wrong == 0 ? "the face is the document's" : wrong + " faults");
        if (wrong != 0) System.exit(1);
    }

    private static void methods() {
        Set<String> found = new TreeSet<>();
        Set<String> names = new TreeSet<>();
        for (String head : METHODS) names.add(head.replaceAll(".* |\\(.*", ""));
        for (Method m : FiveDice.class.getDeclaredMethods()) {
            if (m.isSynthetic()) continue;
            if (Modifier.isPublic(m.getModifiers())) {
                String types = Arrays.toString(m.getParameterTypes()).replaceAll("[\\[\\] ]", "");
                found.add(m.getReturnType() + " " + m.getName() + "(" + types + ")");
            } else if (!Modifier.isPrivate(m.getModifiers())) {
                fault("not private: " + m);
            } else if (names.contains(m.getName())) {
                fault("private with the name of a public one: " + m);
            }
        }
        if (!found.equals(METHODS)) fault("methods are " + found);
    }

    private static void fields() {
        int constants = 0;
        for (Field f : FiveDice.class.getDeclaredFields()) {
            boolean constant = Modifier.isStatic(f.getModifiers()) && Modifier.isFinal(f.getModifiers());
            if (Modifier.isPublic(f.getModifiers()) && constant && CONSTANTS.contains(f.getName())) {
                constants++;
            } else if (!Modifier.isPrivate(f.getModifiers())) {
                fault("not private: " + f);
            } else if (Modifier.isStatic(f.getModifiers()) && !constant) {
                fault("static and not final: " + f);
            }
        }
        if (constants != CONSTANTS.size()) fault("constants are missing");
    }

    private static void constructors() {
        Constructor<?>[] found = FiveDice.class.getDeclaredConstructors();
        if (found.length != 1 || !Modifier.isPublic(found[0].getModifiers()) || found[0].getParameterCount() != 0) {
            fault("constructors are " + Arrays.toString(found));
        }
        if (!Modifier.isFinal(FiveDice.class.getModifiers())) fault("not final");
    }

    private static void nested() {
        for (Class<?> c : FiveDice.class.getDeclaredClasses()) {
            if (!Modifier.isStatic(c.getModifiers())) fault("not static: " + c);
            if (c.getDeclaredFields().length > 20) fault("too many fields: " + c);
        }
    }

    private static void words(String source) {
        String code = source.replaceAll("(?s)/\\*.*?\\*/", "").replaceAll("//[^\n]*", "");
        for (String word : RULED_OUT) {
            if (Pattern.compile(word).matcher(code).find()) fault("ruled out: " + word);
        }
    }
}

import java.lang.reflect.Constructor;
import java.lang.reflect.Field;
import java.lang.reflect.Method;
import java.lang.reflect.Modifier;
import java.nio.file.Files;
import java.nio.file.Path;
import java.util.Arrays;
import java.util.Set;
import java.util.TreeSet;
import java.util.regex.Pattern;

/** The class has the document's face and no more, and no word that ../shared/LANGUAGE.md rules out. */
public final class FiveDiceFace {
    private static final Path SOURCE = Path.of("src/main/java/FiveDice.java");
    private static final Set<String> METHODS = new TreeSet<>(Arrays.asList(
        "int dice(int,int,int)", "int row(int,int,int)", "int begin()", "int end()", "int fall(int)", "int draw(int)",
        "int hold(int)", "int fill(int)", "long unit()", "long worth()", "long worthOf(int)", "int bestHold()",
        "int bestRow()", "long chance(int)", "long luck()", "long slip()", "int points(int,int)", "int ways(int)",
        "int filled(int)", "int count(int)"));
    private static final Set<String> CONSTANTS = Set.of("NONE", "UNKNOWN", "OUTSIDE", "NOT", "LARGE", "FULL");
    private static final int MOST_PARAMETERS = 7;
    private static final int MOST_LINES = 60;
    private static final int MOST_CLASSES = 12;
    private static final int MOST_FIELDS = 20;
    private static final String[] RULED_OUT = {"\\bthrow\\b", "\\btry\\b", "\\bcatch\\b", "\\bsynchronized\\b",
        "\\bassert\\b", "->", "::", "Exact\\b", "\\bdouble\\b", "\\bfloat\\b", "static \\{", "\\bpackage\\b",
        "import (?!java\\.util\\.(Arrays|ArrayList|List|Iterator);)", "\\bSystem\\.(?!arraycopy\\b)",
        "\\bArrays\\.(?!(copyOf|copyOfRange|fill)\\b)", "\\bnew \\w+\\([^)]*\\) *\\{", "\\b(equals|hashCode|toString)\\b",
        "[^\\x00-\\xff]", "\\bprotected\\b", "\\b(Thread|Random|Runtime|Object)\\b"};
    private static int wrong = 0;

    private static void fault(String what) {
        wrong++;
        System.out.println(what);
    }

    public static void main(String[] args) throws Exception {
        methods();
        fields();
        constructors();
        nested();
        String code = Files.readString(SOURCE).replaceAll("(?s)/\\*.*?\\*/", "").replaceAll("//[^\n]*", "");
        words(code);
        lengths(code);
        System.out.println(wrong == 0 ? "the face is the document's" : wrong + " faults");
        if (wrong != 0) System.exit(1);
    }

    private static void methods() {
        Set<String> found = new TreeSet<>();
        Set<String> names = new TreeSet<>();
        for (String head : METHODS) names.add(head.replaceAll(".* |\\(.*", ""));
        for (Method m : FiveDice.class.getDeclaredMethods()) {
            if (m.isSynthetic()) continue;
            if (Modifier.isPublic(m.getModifiers())) {
                if (Modifier.isStatic(m.getModifiers())) fault("static: " + m);
                String types = Arrays.toString(m.getParameterTypes()).replaceAll("[\\[\\] ]", "");
                found.add(m.getReturnType() + " " + m.getName() + "(" + types + ")");
            } else if (!Modifier.isPrivate(m.getModifiers())) {
                fault("not private: " + m);
            } else if (names.contains(m.getName())) {
                fault("private with the name of a public one: " + m);
            }
        }
        if (!found.equals(METHODS)) fault("methods are " + found);
    }

    private static void fields() {
        int constants = 0;
        for (Field f : FiveDice.class.getDeclaredFields()) {
            boolean constant = Modifier.isStatic(f.getModifiers()) && Modifier.isFinal(f.getModifiers());
            boolean told = CONSTANTS.contains(f.getName()) && f.getType() == int.class;
            if (Modifier.isPublic(f.getModifiers()) && constant && told) {
                constants++;
            } else if (!Modifier.isPrivate(f.getModifiers())) {
                fault("not private: " + f);
            } else if (Modifier.isStatic(f.getModifiers()) && !constant) {
                fault("static and not final: " + f);
            }
        }
        if (constants != CONSTANTS.size()) fault("constants are missing");
    }

    private static void constructors() {
        Constructor<?>[] found = FiveDice.class.getDeclaredConstructors();
        if (found.length != 1 || !Modifier.isPublic(found[0].getModifiers()) || found[0].getParameterCount() != 0) {
            fault("constructors are " + Arrays.toString(found));
        }
        int modifiers = FiveDice.class.getModifiers();
        if (!Modifier.isFinal(modifiers) || !Modifier.isPublic(modifiers)) fault("not public and final");
        if (FiveDice.class.getSuperclass() != Object.class || FiveDice.class.getInterfaces().length > 0) {
            fault("more than the face by what it extends");
        }
    }

    private static void nested() {
        Class<?>[] inside = FiveDice.class.getDeclaredClasses();
        if (inside.length + 1 > MOST_CLASSES) fault("too many classes: " + inside.length);
        limits(FiveDice.class);
        for (Class<?> c : inside) {
            int modifiers = c.getModifiers();
            if (!Modifier.isStatic(modifiers)) fault("not static: " + c);
            if (Modifier.isPublic(modifiers) || Modifier.isProtected(modifiers)) fault("seen from outside: " + c);
            limits(c);
        }
    }

    private static void limits(Class<?> c) {
        int fields = 0;
        for (Field f : c.getDeclaredFields()) {
            if (!Modifier.isStatic(f.getModifiers())) fields++;
            else if (!Modifier.isFinal(f.getModifiers())) fault("static and not final: " + f);
        }
        if (fields > MOST_FIELDS) fault("too many fields: " + c);
        for (Method m : c.getDeclaredMethods()) {
            if (m.getParameterCount() > MOST_PARAMETERS) fault("too many parameters: " + m);
        }
    }

    private static void words(String code) {
        for (String word : RULED_OUT) {
            if (Pattern.compile(word).matcher(code).find()) fault("ruled out: " + word);
        }
    }

    /** A method's head ends with a brace that opens; its own end has the head's indent. */
    private static void lengths(String code) {
        String[] lines = code.split("\n");
        for (int i = 0; i < lines.length; i++) {
            if (!lines[i].matches(" {4,8}[\\w\\[\\]<> ]+\\(.*\\) \\{") || lines[i].matches(" *(if|for|while|switch)\\b.*")) continue;
            String end = lines[i].replaceAll("\\S.*", "") + "}";
            int last = i;
            while (last < lines.length && !lines[last].equals(end)) last++;
            if (last - i + 1 > MOST_LINES) fault("too long: " + lines[i].trim());
        }
    }
}

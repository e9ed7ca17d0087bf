import java.lang.reflect.Method;
import java.lang.reflect.Modifier;
import java.nio.file.Files;
import java.nio.file.Path;
import java.util.Arrays;
import java.util.Set;
import java.util.TreeSet;
import java.util.regex.Matcher;
import java.util.regex.Pattern;

/** The calls that stand in README.md answer what stands behind them, and each call of the face stands there. */
public final class FiveDiceReadme {
    private static final Path README = Path.of("README.md");
    private static final Pattern CALL =
        Pattern.compile("game\\.(\\w+)\\(([-0-9, ]*)\\); *// (-?[0-9]+|[A-Z]+)\\b.*");
    private static int wrong = 0;

    private static void fault(String what) {
        wrong++;
        System.out.println(what);
    }

    public static void main(String[] args) throws Exception {
        Set<String> asked = new TreeSet<>();
        FiveDice game = new FiveDice();
        for (String line : Files.readAllLines(README)) {
            if (!line.startsWith("game.")) continue;
            Matcher m = CALL.matcher(line);
            if (m.matches()) {
                asked.add(m.group(1));
                due(line, answer(game, m.group(1), m.group(2)), wanted(m.group(3)));
            } else {
                fault("no call with an answer: " + line);
            }
        }
        for (Method m : FiveDice.class.getDeclaredMethods()) {
            if (Modifier.isPublic(m.getModifiers()) && !asked.contains(m.getName())) fault("not shown: " + m.getName());
        }
        System.out.println(wrong == 0 ? "what README.md shows is so" : wrong + " faults");
        if (wrong != 0) System.exit(1);
    }

    private static void due(String line, long got, long want) {
        if (got != want) fault("README.md: " + line + " (answered " + got + ")");
    }

    private static long answer(FiveDice game, String name, String numbers) throws Exception {
        String[] told = numbers.isBlank() ? new String[0] : numbers.split(", *");
        Class<?>[] types = new Class<?>[told.length];
        Arrays.fill(types, int.class);
        Object[] given = new Object[told.length];
        for (int i = 0; i < told.length; i++) given[i] = Integer.valueOf(told[i].trim());
        return ((Number) FiveDice.class.getMethod(name, types).invoke(game, given)).longValue();
    }

    private static long wanted(String told) throws Exception {
        return Character.isLetter(told.charAt(0)) ? FiveDice.class.getField(told).getInt(null) : Long.parseLong(told);
    }
}

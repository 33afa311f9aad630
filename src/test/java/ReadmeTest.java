import java.lang.reflect.Method;
import java.nio.file.Files;
import java.nio.file.Path;
import java.util.List;
import java.util.Map;
import java.util.Set;
import java.util.TreeSet;
import java.util.regex.Matcher;
import java.util.regex.Pattern;

/**
 * README.md's examples, run as they stand: behind "// " stands what the call answers, a number or a
 * constant's name, then perhaps ":" and words. Each call of the face has an example, each test a line.
 */
public final class ReadmeTest {
    private static final Pattern NEW = Pattern.compile("ShapeMinima x = new ShapeMinima\\(\\);");
    private static final Pattern CALL = Pattern.compile("x\\.(\\w+)\\(([^)]*)\\); +// (-?\\d+|[A-Z]+)(:.*)?");
    private static final Map<String, Integer> CONSTANTS = Map.of("BAD", ShapeMinima.BAD, "STATE", ShapeMinima.STATE,
        "FINDING", ShapeMinima.FINDING, "NONE", ShapeMinima.NONE);

    private ReadmeTest() {
    }

    public static void main(String[] args) throws Exception {
        Expect expect = new Expect();
        List<String> lines = Files.readAllLines(Path.of("README.md"));
        Set<String> called = examples(expect, lines);
        for (Method m : ShapeMinima.class.getDeclaredMethods()) {
            if ((m.getModifiers() & java.lang.reflect.Modifier.PUBLIC) != 0) {
                expect.holds("README.md has an example of " + m.getName() + "()", called.contains(m.getName()));
            }
        }
        tests(expect, String.join("\n", lines));
        expect.end();
    }

    /** The names of the calls in the fenced Java lines. */
    private static Set<String> examples(Expect expect, List<String> lines) throws Exception {
        Set<String> called = new TreeSet<>();
        ShapeMinima x = null;
        boolean inside = false;
        for (String line : lines) {
            if (line.startsWith("```")) {
                inside = line.equals("```java");
            } else if (inside && NEW.matcher(line).matches()) {
                x = new ShapeMinima();
            } else if (inside && !line.isBlank()) {
                Matcher m = CALL.matcher(line);
                boolean told = m.matches() && x != null;
                expect.holds("README.md tells what is answered: " + line, told);
                if (told) {
                    expect.due("README.md: " + line, answer(x, m.group(1), m.group(2)), number(m.group(3)));
                    called.add(m.group(1));
                }
            }
        }
        return called;
    }

    private static long answer(ShapeMinima x, String name, String told) throws Exception {
        String[] numbers = told.isBlank() ? new String[0] : told.split(", *");
        Class<?>[] types = new Class<?>[numbers.length];
        Object[] ints = new Object[numbers.length];
        for (int k = 0; k < numbers.length; k++) {
            types[k] = int.class;
            ints[k] = Integer.valueOf(numbers[k]);
        }
        return ((Number) ShapeMinima.class.getMethod(name, types).invoke(x, ints)).longValue();
    }

    private static long number(String told) {
        return CONSTANTS.containsKey(told) ? CONSTANTS.get(told) : Long.parseLong(told);
    }

    private static void tests(Expect expect, String readme) throws Exception {
        expect.holds("README.md says how tests are run", readme.contains(".ci/run"));
        try (var files = Files.list(Path.of("src/test/java"))) {
            for (Path file : (Iterable<Path>) files::iterator) {
                String name = file.getFileName().toString().replace(".java", "");
                expect.holds("README.md names " + name, readme.contains("`" + name + "`"));
            }
        }
    }
}

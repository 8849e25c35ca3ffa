import java.io.IOException;
import java.lang.reflect.InvocationTargetException;
import java.lang.reflect.Method;
import java.lang.reflect.Modifier;
import java.nio.file.Files;
import java.nio.file.Path;
import java.util.ArrayList;
import java.util.HashMap;
import java.util.List;
import java.util.Map;
import java.util.Random;
import java.util.TreeSet;
import java.util.regex.Matcher;
import java.util.regex.Pattern;

/** What README.md says beside its examples: the tables of codes and calls, and the tests that it names. */
final class ReadmeTest extends Checks {
    private static final Path SOURCE = Path.of("src/main/java/LightPropagator.java");
    private static final Path TESTS = Path.of("src/test/java");
    private static final Pattern CODE_ROW = Pattern.compile("\\| `([A-Z_]+)` \\| (-[0-9]+) \\| .+ \\|");
    private static final Pattern CALL_ROW = Pattern.compile("\\| `(\\w+)\\(([a-z, ]*)\\)` \\| .+ \\| (.*)\\|");

    private final Random random = new Random(38);
    private final Map<String, Integer> codes = new HashMap<>();
    private final List<String> lines;

    private ReadmeTest() throws IOException {
        lines = Files.readAllLines(ReadmeExamples.README);
    }

    public static void main(String[] args) throws IOException, ReflectiveOperationException {
        ReadmeTest test = new ReadmeTest();
        test.codes();
        test.calls();
        test.examples();
        test.tests();
        end();
    }

    private static List<Method> face() {
        List<Method> face = new ArrayList<>();
        for (Method method : LightPropagator.class.getDeclaredMethods()) {
            if (Modifier.isPublic(method.getModifiers())) {
                face.add(method);
            }
        }
        return face;
    }

    /** All five codes, with the numbers that the class gives them. */
    private void codes() throws ReflectiveOperationException {
        for (String line : lines) {
            Matcher m = CODE_ROW.matcher(line);
            if (m.matches()) {
                int number = Integer.parseInt(m.group(2));
                due("README.md: " + m.group(1), number, LightPropagator.class.getField(m.group(1)).getInt(null));
                codes.put(m.group(1), number);
            }
        }
        due("codes in README.md", codes.size(), LightPropagator.class.getFields().length);
    }

    /** All calls, with the parameters of the class, and with those codes that they do answer. */
    private void calls() throws IOException, ReflectiveOperationException {
        String source = Files.readString(SOURCE);
        Map<String, String> shown = new HashMap<>();
        for (String line : lines) {
            Matcher m = CALL_ROW.matcher(line);
            if (m.matches()) {
                String parameters = m.group(2).isEmpty() ? "" : "int " + m.group(2).replace(", ", ", int ");
                due("README.md: " + m.group(1) + " has the parameters " + parameters,
                        source.contains(" " + m.group(1) + "(" + parameters + ") {") ? 1 : 0, 1);
                shown.put(m.group(1), m.group(3));
            }
        }
        due("calls in README.md", shown.size(), face().size());
        for (Method method : face()) {
            due("README.md shows " + method.getName(), shown.containsKey(method.getName()) ? 1 : 0, 1);
            if (!method.getName().equals("checksum")) {
                String found = answeredCodes(method).toString();
                String named = namedCodes(shown.getOrDefault(method.getName(), "")).toString();
                due("README.md: codes of " + method.getName() + " are " + found, found.equals(named) ? 1 : 0, 1);
            }
        }
    }

    private TreeSet<Long> namedCodes(String cell) {
        TreeSet<Long> named = new TreeSet<>();
        for (String name : cell.split(", ")) {
            if (!name.isBlank()) {
                named.add((long) codes.getOrDefault(name.strip().replace("`", ""), 0));
            }
        }
        return named;
    }

    /** All answers less than 0 to many calls, the most of them with arguments just inside or just outside. */
    private TreeSet<Long> answeredCodes(Method method) throws IllegalAccessException, InvocationTargetException {
        int[] numbers = {0, 0, 1, 1, 2, 2, 3, -1, -2, 4, 7, 8, 9, 12, 15, 16, 2000};
        TreeSet<Long> found = new TreeSet<>();
        for (int n = 0; n < 1500; n++) {
            LightPropagator p = object(n % 5);
            Object[] args = new Object[method.getParameterCount()];
            for (int i = 0; i < args.length; i++) {
                args[i] = numbers[random.nextInt(numbers.length)];
            }
            if (method.getName().equals("append")) {
                args[0] = (33 + random.nextInt(95)) << 24 | 'x';
            }
            long answer = ((Number) method.invoke(p, args)).longValue();
            if (answer < 0) {
                found.add(answer);
            }
        }
        return found;
    }

    private static LightPropagator object(int kind) {
        LightPropagator p = new LightPropagator();
        if (kind > 0) {
            p.setEmission(2, RED, 12);
            p.set(1, 1, 1, 2);
            p.set(3, 7, 3, 1);
        }
        if (kind == 2) {
            read(p, "s0,0");
            for (int n = 0; n < 15; n++) {
                write(p, "s0,0");
            }
        }
        if (kind > 2) {
            p.openBatch();
        }
        for (int edit = 0; kind > 3 && edit < 40; edit++) {
            p.set(11 - edit % 12, 0, 11 - edit / 12, 1);
        }
        return p;
    }

    /** Each call has an example with its answer, and an answer that is a code is followed by its name. */
    private void examples() throws IOException {
        TreeSet<String> missing = new TreeSet<>();
        for (Method method : face()) {
            missing.add(method.getName());
        }
        for (ReadmeExamples.Block block : ReadmeExamples.blocks()) {
            for (String line : block.lines()) {
                Matcher m = ReadmeExamples.EXAMPLE.matcher(line);
                if (m.matches()) {
                    missing.remove(m.group(1).replaceAll("^world\\.(\\w+)\\(.*\\)$", "$1"));
                    dueName(line, Long.parseLong(m.group(2)), m.group(3));
                }
            }
        }
        due("calls without an example in README.md: " + missing, missing.size(), 0);
    }

    private void dueName(String line, long answer, String why) {
        for (Map.Entry<String, Integer> code : codes.entrySet()) {
            if (answer == code.getValue()) {
                due("README.md: name of the code in " + line,
                        why != null && why.split(",")[0].equals(code.getKey()) ? 1 : 0, 1);
            }
        }
    }

    /** All tests of the project are named. */
    private void tests() throws IOException {
        String readme = String.join("\n", lines);
        try (var files = Files.list(TESTS)) {
            for (Path file : files.sorted().toList()) {
                String name = file.getFileName().toString().replace(".java", "");
                due("README.md names " + name, readme.contains("`" + name + "`") ? 1 : 0, 1);
            }
        }
    }
}

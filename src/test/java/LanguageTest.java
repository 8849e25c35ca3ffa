import java.io.IOException;
import java.lang.reflect.Array;
import java.lang.reflect.Field;
import java.lang.reflect.Method;
import java.lang.reflect.Modifier;
import java.nio.file.Files;
import java.nio.file.Path;
import java.util.Arrays;
import java.util.Collections;
import java.util.IdentityHashMap;
import java.util.List;
import java.util.Map;
import java.util.Set;
import java.util.TreeMap;
import java.util.TreeSet;
import java.util.regex.Matcher;
import java.util.regex.Pattern;
import java.util.stream.Collectors;

/** The public face, and those rules of ../shared/LANGUAGE.md that can be seen without reading. */
final class LanguageTest extends Checks {
    private static final Path SOURCE = Path.of("src/main/java/LightPropagator.java");

    private static final List<String> FACE = List.of(
            "int append(int)", "int batchSize()", "int brightest(int)", "int chunkSum(int, int)", "int closeBatch()",
            "int crossings(int, int, int)", "int dark(int)", "int dropBatch()", "int effect(int)",
            "int effectChunks()", "int emission(int, int)", "int faultPosition()",
            "int fill(int, int, int, int, int, int)", "int histogram(int, int)", "int isConsistent()",
            "int light(int, int, int, int)", "int lightIf(int, int, int, int, int)", "int lights(int, int, int)",
            "int loss(int, int)", "int needed(int, int, int, int, int)", "int openBatch()",
            "int origin(int, int, int, int)", "int ray(int, int, int, int, int)", "int read()", "int regions(int)",
            "int restore()", "int save()", "int set(int, int, int, int)", "int setEmission(int, int, int)",
            "int setLoss(int, int, int)", "int skyHeight(int, int)", "int spread(int, int, int, int)",
            "int type(int, int, int)", "int undo()", "int wayEnd(int, int, int, int)",
            "int wayLength(int, int, int, int)", "long checksum()");

    /** The head of a method or a constructor, of the class itself or of one inside. */
    private static final Pattern HEAD = Pattern.compile(
            "(?m)^( {4}(?: {4})?)(?:(?:public|private|static|final) )*(?:[\\w\\[\\]]+ )?(\\w+)\\([^)]*\\) \\{$");

    public static void main(String[] args) throws IOException, IllegalAccessException {
        face();
        constants();
        members();
        String source = bare(Files.readString(SOURCE));
        words(source);
        library(source);
        calls(source);
        objects(source);
        end();
    }

    private static String signature(Method method) {
        return method.getReturnType() + " " + method.getName() + Arrays.stream(method.getParameterTypes())
                .map(Class::getName).collect(Collectors.joining(", ", "(", ")"));
    }

    private static void face() {
        Set<String> found = new TreeSet<>();
        Set<String> names = new TreeSet<>();
        Set<String> privateNames = new TreeSet<>();
        for (Method method : LightPropagator.class.getDeclaredMethods()) {
            if (Modifier.isPrivate(method.getModifiers())) {
                privateNames.add(method.getName());
            } else {
                found.add(Modifier.toString(method.getModifiers()) + " " + signature(method));
                names.add(method.getName());
            }
        }
        for (Class<?> inside : LightPropagator.class.getDeclaredClasses()) {
            for (Method method : inside.getDeclaredMethods()) {
                privateNames.add(method.getName());
            }
        }
        Set<String> want = FACE.stream().map(s -> "public " + s).collect(Collectors.toCollection(TreeSet::new));
        due("methods of the face " + found, found.equals(want) ? 1 : 0, 1);
        privateNames.retainAll(names);
        due("private names of public methods " + privateNames, privateNames.size(), 0);
        due("constructors", LightPropagator.class.getDeclaredConstructors().length, 1);
        due("constructor", LightPropagator.class.getDeclaredConstructors()[0].getModifiers(), Modifier.PUBLIC);
        due("class", LightPropagator.class.getModifiers(), Modifier.PUBLIC | Modifier.FINAL);
    }

    private static void constants() throws IllegalAccessException {
        StringBuilder found = new StringBuilder();
        for (Field field : LightPropagator.class.getDeclaredFields()) {
            if (Modifier.isPrivate(field.getModifiers())) {
                continue;
            }
            due("modifiers of " + field.getName(), field.getModifiers(),
                    Modifier.PUBLIC | Modifier.STATIC | Modifier.FINAL);
            found.append(field.getName()).append(field.getInt(null));
        }
        due("constants " + found,
                found.toString().equals("NO_SUCH_ELEMENT-1BAD_VALUE-2FULL-3NONE-4STATE-5") ? 1 : 0, 1);
    }

    private static void members() {
        Class<?>[] inside = LightPropagator.class.getDeclaredClasses();
        due("classes are at most 12", Math.max(12, inside.length + 1), 12);
        due("no class inside a class inside",
                Arrays.stream(inside).mapToInt(c -> c.getDeclaredClasses().length).sum(), 0);
        for (Class<?> each : inside) {
            due(each + " is static", Modifier.isStatic(each.getModifiers()) ? 1 : 0, 1);
            due(each + " is neither public nor protected",
                    each.getModifiers() & (Modifier.PUBLIC | Modifier.PROTECTED), 0);
            limits(each);
        }
        limits(LightPropagator.class);
    }

    private static void limits(Class<?> each) {
        int fields = 0;
        for (Field field : each.getDeclaredFields()) {
            if (Modifier.isStatic(field.getModifiers())) {
                due(field + " is final", Modifier.isFinal(field.getModifiers()) ? 1 : 0, 1);
            } else {
                fields++;
            }
        }
        due("fields of " + each + " are at most 20", Math.max(20, fields), 20);
        for (Method method : each.getDeclaredMethods()) {
            due("parameters of " + method + " are at most 7", Math.max(7, method.getParameterCount()), 7);
        }
    }

    /** The source without comments, texts and characters, of which the words tell nothing. */
    private static String bare(String source) {
        return source.replaceAll("(?s)/\\*.*?\\*/", " ").replaceAll("//[^\n]*", " ")
                .replaceAll("\"(\\\\.|[^\"\\\\])*\"", "\"\"").replaceAll("'(\\\\.|[^'\\\\])'", "' '");
    }

    private static void words(String source) {
        String[] forbidden = {"\\bthrows?\\b", "\\btry\\b", "\\bcatch\\b", "\\bsynchronized\\b", "\\bassert\\b",
            "\\bpackage\\b", "\\bimport\\b", "->", "::", "\\bvar\\b", "\\w+Exact\\b", "\\bdouble\\b", "\\bfloat\\b",
            "\\bString\\b", "\\bSystem\\.(?!arraycopy\\b)", "\\bequals\\b", "\\bhashCode\\b", "\\btoString\\b",
            "\\bstatic \\{", "\\bmain\\b", "\\bObject\\b", "[^\\x00-\\x7f]"};
        for (String each : forbidden) {
            Matcher matcher = Pattern.compile(each).matcher(source);
            due("found " + each, matcher.find() ? 1 : 0, 0);
        }
        int line = 0;
        int start = 0;
        for (String each : source.split("\n")) {
            line++;
            if (each.matches(" {4}( {4})?\\S.*\\) \\{")) {
                start = line;
            }
            if (each.matches(" {4}( {4})?\\}") && start > 0) {
                due("lines of the method at " + start + " are at most 60", Math.max(60, line - start + 1), 60);
            }
        }
    }

    /** Of the library, only what the class needs, which is less than what rule 4 allows. */
    private static void library(String source) {
        Set<String> own = new TreeSet<>(Set.of("LightPropagator"));
        for (Class<?> inside : LightPropagator.class.getDeclaredClasses()) {
            own.add(inside.getSimpleName());
        }
        Matcher matcher = Pattern.compile("\\b[A-Z]\\w*[a-z]\\w*(\\.\\w+)?").matcher(source);
        while (matcher.find()) {
            String name = matcher.group();
            boolean known = own.contains(name.replaceAll("\\..*", ""))
                    || Set.of("Math.min", "Math.max", "System.arraycopy").contains(name);
            due("the class uses " + name, known ? 1 : 0, 1);
        }
    }

    /** Calls go at most eight deep, and none comes back to a method that is not yet left. */
    private static void calls(String source) {
        Map<String, Set<String>> called = new TreeMap<>();
        Matcher head = HEAD.matcher(source);
        while (head.find()) {
            int end = source.indexOf("\n" + head.group(1) + "}", head.end());
            Set<String> names = called.computeIfAbsent(head.group(2), name -> new TreeSet<>());
            Matcher call = Pattern.compile("\\b(\\w+)\\(").matcher(source.substring(head.end(), end));
            while (call.find()) {
                names.add(call.group(1));
            }
        }
        due("methods and constructors are found", called.keySet().containsAll(
                List.of("LightPropagator", "fill", "relight", "World", "neighbor", "isRefused")) ? 1 : 0, 1);
        for (String name : called.keySet()) {
            due("calls from " + name + " are at most 8 deep", Math.max(8, depth(name, called, 1)), 8);
        }
    }

    private static int depth(String name, Map<String, Set<String>> called, int open) {
        int deepest = open;
        // A recursion would go on without an end.
        if (open <= 8) {
            for (String next : called.get(name)) {
                if (called.containsKey(next)) {
                    deepest = Math.max(deepest, depth(next, called, open + 1));
                }
            }
        }
        return deepest;
    }

    /** All rows are made with the object, and no call makes another one. */
    private static void objects(String source) throws IllegalAccessException {
        for (String line : source.split("\n")) {
            if (line.contains("new ")) {
                due("made with the object: " + line.strip(), line.matches(" +(private )?final .* = new .*;")
                        || line.equals("                earlier[place] = new World();") ? 1 : 0, 1);
            }
        }
        LightPropagator p = new LightPropagator();
        Set<Object> before = Collections.newSetFromMap(new IdentityHashMap<>());
        long elements = count(p, before);
        due("objects and arrays are at most 100", Math.max(100, before.size()), 100);
        due("fields and elements are at most 25,000", Math.max(25_000, elements), 25_000);
        Boundaries.eventful(p);
        p.read();
        p.undo();
        p.restore();
        Set<Object> after = Collections.newSetFromMap(new IdentityHashMap<>());
        due("fields and elements after calls", count(p, after), elements);
        due("objects and arrays after calls are those before", after.equals(before) ? 1 : 0, 1);
    }

    private static long count(Object object, Set<Object> seen) throws IllegalAccessException {
        if (object == null || !seen.add(object)) {
            return 0;
        }
        long elements = 0;
        if (object.getClass().isArray()) {
            int length = Array.getLength(object);
            for (int i = 0; i < length && !object.getClass().getComponentType().isPrimitive(); i++) {
                elements += count(Array.get(object, i), seen);
            }
            return elements + length;
        }
        for (Field field : object.getClass().getDeclaredFields()) {
            if (!Modifier.isStatic(field.getModifiers())) {
                field.setAccessible(true);
                elements++;
                elements += field.getType().isPrimitive() ? 0 : count(field.get(object), seen);
            }
        }
        return elements;
    }
}

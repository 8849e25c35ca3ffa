import java.io.IOException;
import java.nio.file.Files;
import java.nio.file.Path;
import java.util.ArrayList;
import java.util.List;
import java.util.regex.Matcher;
import java.util.regex.Pattern;

/**
 * Writes a test of the examples in README.md: in a block of Java, a line "call;  // answer: why" becomes a check of the
 * answer, and all other lines stay as they are. Each block is a method of its own, so it has to stand by itself.
 */
final class ReadmeExamples {
    static final Path README = Path.of("README.md");
    static final Pattern EXAMPLE = Pattern.compile("(.+?); *// (-?[0-9]+)(?:: (.+))?");

    /** A block of Java: the number of its first line in README.md, from 1, and its lines. */
    record Block(int first, List<String> lines) {
    }

    public static void main(String[] args) throws IOException {
        Path out = Path.of(args[0]);
        Files.writeString(out, test(out.getFileName().toString().replace(".java", "")));
    }

    static List<Block> blocks() throws IOException {
        List<Block> blocks = new ArrayList<>();
        List<String> lines = Files.readAllLines(README);
        for (int at = 0; at < lines.size(); at++) {
            if (lines.get(at).equals("```java")) {
                int end = at + 1;
                while (!lines.get(end).equals("```")) {
                    end++;
                }
                blocks.add(new Block(at + 2, lines.subList(at + 1, end)));
                at = end;
            }
        }
        return blocks;
    }

    private static String test(String name) throws IOException {
        StringBuilder calls = new StringBuilder();
        StringBuilder methods = new StringBuilder();
        for (Block block : blocks()) {
            calls.append("        from").append(block.first).append("();\n");
            methods.append("\n    private static void from").append(block.first).append("() {\n");
            for (int i = 0; i < block.lines.size(); i++) {
                methods.append(line(block.first + i, block.lines.get(i))).append('\n');
            }
            methods.append("    }\n");
        }
        return "final class " + name + " extends Checks {\n    public static void main(String[] args) {\n" + calls
                + "        end();\n    }\n" + methods + "}\n";
    }

    private static String line(int number, String line) {
        Matcher m = EXAMPLE.matcher(line);
        if (m.matches()) {
            return "due(\"README.md, line " + number + "\", " + m.group(1) + ", " + m.group(2) + "L);";
        }
        // An answer that is not seen would be one that is not tested.
        if (line.contains("//")) {
            throw new IllegalArgumentException("README.md, line " + number + " has a comment without an answer");
        }
        return line;
    }
}

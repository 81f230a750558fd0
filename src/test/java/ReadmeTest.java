import java.io.IOException;
import java.net.URL;
import java.net.URLClassLoader;
import java.nio.file.Files;
import java.nio.file.Path;
import java.util.ArrayList;
import java.util.List;
import java.util.regex.Matcher;
import java.util.regex.Pattern;
import java.util.stream.Stream;
import javax.tools.JavaCompiler;
import javax.tools.ToolProvider;

/** README.md names all of the face and all tests, and its examples compile and answer as it says. */
public final class ReadmeTest {
    private static final Pattern EXAMPLE = Pattern.compile("(\\S.*);\\s+// ([-0-9]+|[A-Z]+)(: .*)?");
    private static final Due due = new Due();

    public static void main(String[] args) throws Exception {
        String page = Files.readString(Path.of("README.md"));
        face(page);
        tests(page);
        examples(page);
        due.end("ReadmeTest");
    }

    private static void face(String page) throws IOException {
        String document = Files.readString(Path.of("../shared/DOC.md"));
        Matcher methods = Pattern.compile("public int (\\w+\\([^)]*\\));").matcher(document);
        int named = 0;
        for (; methods.find(); named++) {
            String row = "| `" + methods.group(1).replace("int ", "") + "` |";
            due.holds("no row " + row, page.contains(row));
        }
        due.is("methods of the document", named, 43);
        Matcher constants = Pattern.compile("([A-Z]+) = (-\\d+)").matcher(document);
        for (named = 0; constants.find(); named++) {
            String row = "| `" + constants.group(1) + "` | " + constants.group(2) + " |";
            due.holds("no row " + row, page.contains(row));
        }
        due.is("constants of the document", named, 8);
        due.holds("no constructor", page.contains("`new AtticStars()`"));
    }

    private static void tests(String page) throws IOException {
        try (Stream<Path> files = Files.list(Path.of("src/test/java"))) {
            for (Path file : (Iterable<Path>) files::iterator) {
                String name = file.getFileName().toString().replace(".java", "");
                due.holds(name + " is not named", !name.endsWith("Test") || page.contains("`" + name + "`"));
            }
        }
    }

    /** Blocks that begin with static are methods; of the others each line is a call with its answer behind it. */
    private static void examples(String page) throws Exception {
        StringBuilder methods = new StringBuilder();
        List<String> blocks = new ArrayList<>();
        Matcher found = Pattern.compile("(?s)```java\n(.*?)```").matcher(page);
        while (found.find()) {
            if (found.group(1).startsWith("static ")) methods.append(found.group(1));
            else blocks.add(found.group(1));
        }
        due.holds("too few examples", blocks.size() >= 4);
        StringBuilder source = new StringBuilder("public final class Examples {\n").append(methods)
            .append("public static void play(java.util.List<Object[]> answers) {\n");
        for (String block : blocks) source.append("{\n").append(statements(block)).append("}\n");
        play(source.append("}\n}\n").toString());
    }

    private static String statements(String block) {
        StringBuilder all = new StringBuilder();
        for (String line : block.split("\n")) {
            Matcher call = EXAMPLE.matcher(line);
            if (call.matches()) {
                String words = call.group(1).replace("\"", "\\\"");
                String answer = call.group(2).matches("[A-Z]+") ? "AtticStars." + call.group(2) : call.group(2);
                all.append("answers.add(new Object[] {\"").append(words).append("\", ").append(call.group(1)).append(", ")
                    .append(answer).append("});\n");
            } else {
                due.holds("no answer is told: " + line, line.equals("AtticStars town = new AtticStars();"));
                all.append(line).append('\n');
            }
        }
        return all.toString();
    }

    private static void play(String source) throws Exception {
        Path dir = Files.createTempDirectory("readme");
        Path file = Files.writeString(dir.resolve("Examples.java"), source);
        JavaCompiler compiler = ToolProvider.getSystemJavaCompiler();
        int compiled = compiler.run(null, null, null, "-cp", System.getProperty("java.class.path"), "-d", dir.toString(), file.toString());
        due.is("compiling the examples", compiled, 0);
        List<Object[]> answers = new ArrayList<>();
        if (compiled == 0) {
            try (URLClassLoader loader = new URLClassLoader(new URL[] {dir.toUri().toURL()})) {
                loader.loadClass("Examples").getMethod("play", List.class).invoke(null, answers);
            }
        }
        for (Object[] one : answers) due.is("README: " + one[0], (Integer) one[1], (Integer) one[2]);
        due.holds("too few answers", answers.size() >= 50);
        Files.deleteIfExists(dir.resolve("Examples.class"));
        Files.delete(file);
        Files.delete(dir);
    }
}

import java.io.IOException;
import java.lang.reflect.Field;
import java.lang.reflect.Method;
import java.lang.reflect.Modifier;
import java.nio.file.Files;
import java.nio.file.Path;
import java.util.HashSet;
import java.util.List;
import java.util.Set;
import java.util.regex.Matcher;
import java.util.regex.Pattern;

/** The rules of LANGUAGE.md that can be seen from the source or the compiled classes, and the document's face. */
public final class LanguageTest {
    private static final Due due = new Due();

    public static void main(String[] args) throws IOException {
        String source = Files.readString(Path.of("src/main/java/AtticStars.java"));
        words(source);
        lengths(source);
        face();
        written(source);
        inside();
        due.end("LanguageTest");
    }

    private static void words(String source) {
        due.holds("signs beyond 127", source.chars().allMatch(c -> c < 128));
        String code = source.replaceAll("(?s)/\\*.*?\\*/", "").replaceAll("//[^\n]*", "");
        String[] barred = {"\\bthrow\\b", "\\bthrows\\b", "\\btry\\b", "\\bcatch\\b", "\\bsynchronized\\b", "\\bassert\\b",
            "->", "::", "\\bimport\\b", "\\bpackage\\b", "Exact\\(", "\\bfloat\\b", "\\bdouble\\b", "\\bSystem\\.(?!arraycopy)",
            "\\bstatic \\{", "\\bThread\\b", "\\bequals\\b", "\\bhashCode\\b", "\\btoString\\b", "\\bprotected\\b"};
        for (String bar : barred) due.holds("the source has " + bar, !Pattern.compile(bar).matcher(code).find());
    }

    private static void lengths(String source) {
        int begun = -1;
        String[] lines = source.split("\n");
        for (int i = 0; i < lines.length; i++) {
            due.holds("line " + (i + 1) + " is too long", lines[i].length() <= 140 || lines[i].contains("static final int BAD"));
            if (lines[i].matches("    (    )?\\S.*\\) \\{") && !lines[i].matches("\\s*(if|for|while|switch|\\}).*")) begun = i;
            if (begun >= 0 && lines[i].matches("    (    )?\\}")) {
                due.holds("the method at line " + (begun + 1) + " is too long", i - begun < 60);
                begun = -1;
            }
        }
    }

    /** Exactly what the document's code block says, and nothing else that can be seen from outside. */
    private static void face() throws IOException {
        String document = Files.readString(Path.of("../shared/DOC.md"));
        Set<String> wanted = new HashSet<>();
        Matcher methods = Pattern.compile("public int (\\w+)\\(([^)]*)\\);").matcher(document);
        while (methods.find()) wanted.add(methods.group(1) + " " + (methods.group(2).isEmpty() ? 0 : methods.group(2).split(",").length));
        due.is("methods of the document", wanted.size(), 43);
        for (Method method : AtticStars.class.getDeclaredMethods()) {
            int is = method.getModifiers();
            if (Modifier.isPublic(is)) {
                due.holds("not of the face: " + method, wanted.remove(method.getName() + " " + method.getParameterCount())
                    && method.getReturnType() == int.class && !Modifier.isStatic(is));
            } else {
                due.holds("seen from outside: " + method, Modifier.isPrivate(is));
            }
        }
        due.holds("missing: " + wanted, wanted.isEmpty());
        due.holds("the class is public and final", Modifier.isPublic(AtticStars.class.getModifiers())
            && Modifier.isFinal(AtticStars.class.getModifiers()));
        due.is("constructors", AtticStars.class.getDeclaredConstructors().length, 1);
        List<String> constants = List.of("BAD", "NO", "FULL", "NONE", "NOTHING", "KIND", "INDEX", "SIZE");
        for (Field field : AtticStars.class.getDeclaredFields()) {
            due.holds("seen from outside: " + field, Modifier.isPrivate(field.getModifiers()) != constants.contains(field.getName()));
        }
    }

    /** The document's lines as they stand there, the names of what is given, too, each under its head. */
    private static void written(String source) throws IOException {
        String document = Files.readString(Path.of("../shared/DOC.md"));
        Matcher lines = Pattern.compile("\n    (public .*);").matcher(document);
        int found = 0;
        for (; lines.find(); found++) {
            due.holds("not in the source: " + lines.group(1), source.contains("\n    " + lines.group(1)));
        }
        due.is("lines of the document's face", found, 45);
        Matcher heads = Pattern.compile("Ahead of the calls (.*) the interface says: (---- .*)\\.").matcher(document);
        int from = 0;
        int under = 0;
        while (heads.find()) {
            from = after(source, "\n    // " + heads.group(2) + "\n", from);
            for (String call : heads.group(1).split(", ")) {
                from = after(source, "\n    public int " + call.replace("`", "") + "(", from);
                under++;
            }
        }
        due.is("calls under heads", under, 43);
    }

    private static int after(String source, String words, int from) {
        int at = source.indexOf(words, from);
        due.holds("not in its place:" + words, at >= 0);
        return Math.max(at, from);
    }

    private static void inside() {
        Set<String> face = new HashSet<>();
        for (Method method : AtticStars.class.getDeclaredMethods()) {
            if (Modifier.isPublic(method.getModifiers())) face.add(method.getName());
        }
        Class<?>[] classes = AtticStars.class.getDeclaredClasses();
        due.holds("too many classes", classes.length < 12);
        for (Class<?> one : classes) {
            due.holds(one + " is not static", Modifier.isStatic(one.getModifiers()));
            int fields = 0;
            for (Field field : one.getDeclaredFields()) {
                boolean still = Modifier.isStatic(field.getModifiers());
                due.holds("changing static " + field, !still || Modifier.isFinal(field.getModifiers()));
                fields += still ? 0 : 1;
            }
            due.holds(one + " has too many fields", fields <= 20);
            for (Method method : one.getDeclaredMethods()) {
                due.holds("bears a name of the face: " + method, !face.contains(method.getName()));
                due.holds("too many parameters: " + method, method.getParameterCount() <= 7);
            }
        }
    }
}

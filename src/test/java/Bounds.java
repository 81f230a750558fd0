import java.io.IOException;
import java.nio.file.Files;
import java.nio.file.Path;
import java.util.HashMap;
import java.util.LinkedHashMap;
import java.util.Map;
import java.util.regex.Matcher;
import java.util.regex.Pattern;

/**
 * Boundary cases, each under the words of the document that it is about: about(section, words) begins one. The words
 * must stand in the document, each must have a case, and at the end no word of a section may be left without one.
 */
final class Bounds {
    private final Map<String, String> sections = new LinkedHashMap<>();
    private final Map<String, boolean[]> quoted = new HashMap<>();
    private final Map<String, String> looks = new HashMap<>();
    private String about = "";
    private int here = 1;
    private int tests;
    private int seen;
    private int wrong;

    Bounds(Path document) throws IOException {
        String all = Files.readString(document);
        String terms = all.substring(all.indexOf("## Terms") + 8, all.indexOf("Ahead of the calls"));
        String[] parts = terms.replace("```text", " ").replace("```", " ").split("======== \\d ");
        for (int i = 0; i < parts.length; i++) add(i == 0 ? "Terms" : "Terms " + i, parts[i]);
        Matcher promise = Pattern.compile("## (Promise \\d+): [^\n]*\n\n`[^`]*`: ([^\n]*)\n").matcher(all);
        while (promise.find()) add(promise.group(1), promise.group(2));
        if (sections.size() != 6 + 44) fail("the document has other sections: " + sections.keySet());
    }

    private void add(String name, String text) {
        sections.put(name, text.replaceAll("\\s+", " ").trim());
        quoted.put(name, new boolean[sections.get(name).length()]);
    }

    void about(String section, String quote) {
        if (here == 0) fail("no case");
        here = 0;
        tests++;
        String words = quote.replaceAll("\\s+", " ");
        about = section + ": " + words;
        String text = sections.getOrDefault(section, "");
        int from = text.indexOf(words);
        if (from < 0) fail("these words do not stand there");
        for (int i = from; i >= 0 && i < from + words.length(); i++) quoted.get(section)[i] = true;
    }

    /** A row on a new object. */
    Played run(String rows) {
        return on(new Played(), rows);
    }

    Played on(Played object, String rows) {
        object.rows(rows);
        take(object);
        return object;
    }

    /** Each call by itself, in a busy town: it answers as due, and all is then as it was. */
    void refused(String rows) {
        refusedIn(Towns.BUSY, rows);
    }

    void refusedIn(String town, String rows) {
        refusedTo(town, town, rows);
    }

    /** As refused, but all is then as in another town: for the calls that use up the tape or the numbers that wait. */
    void refusedTo(String town, String then, String rows) {
        for (String step : Played.steps(rows)) {
            Played object = new Played();
            object.rows(town);
            object.seen();
            object.rows(step);
            take(object);
            holds("it is not as it should be behind " + step, Towns.look(object).equals(lookOf(then)));
        }
    }

    private String lookOf(String town) {
        if (!looks.containsKey(town)) {
            Played object = new Played();
            object.rows(town);
            looks.put(town, Towns.look(object));
        }
        return looks.get(town);
    }

    void holds(String what, boolean is) {
        here++;
        seen++;
        if (!is) fail(what);
    }

    private void take(Played object) {
        int held = object.seen();
        here += held;
        seen += held;
        for (String one : object.wrong()) fail(one);
    }

    private void fail(String what) {
        wrong++;
        System.out.println(about + "\n    " + what);
    }

    void end(String test) {
        if (here == 0) fail("no case");
        about = "words of the document without a case";
        for (String section : sections.keySet()) {
            StringBuilder left = new StringBuilder();
            for (int i = 0; i < sections.get(section).length(); i++) {
                left.append(quoted.get(section)[i] ? ' ' : sections.get(section).charAt(i));
            }
            if (left.toString().matches(".*[A-Za-z0-9].*")) fail(section + ": " + left.toString().trim());
        }
        System.out.println(test + ": " + tests + " sentences, " + seen + " answers, " + wrong + " wrong");
        if (wrong != 0 || seen == 0) System.exit(1);
    }
}

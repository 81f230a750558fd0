import java.lang.reflect.InvocationTargetException;
import java.lang.reflect.Method;
import java.lang.reflect.Modifier;
import java.util.ArrayList;
import java.util.HashMap;
import java.util.List;
import java.util.Map;
import java.util.regex.Matcher;
import java.util.regex.Pattern;

/**
 * One object and the rows of calls that are played on it, each with the answer that is due behind its =, if one is:
 * "attic 0 0 1 = 0; 3x hours 100; told 1 0 = BAD". write 'abc' puts these bytes on the tape and nothing behind them,
 * text 'abc' reads them as a text, too. The document promises nothing behind 512 calls, so no row goes on beyond these.
 */
final class Played {
    private static final int MOST_CALLS = 512;
    private static final Pattern STEP = Pattern.compile("(?:(\\d+)x )?(\\w+)((?: [^ '=]+)*)(?: '(.*)')?(?: = (\\S+))?",
        Pattern.DOTALL);
    private static final Map<String, Method> FACE = new HashMap<>();
    private static final Map<String, Integer> WORDS = new HashMap<>();

    static {
        for (Method method : AtticStars.class.getDeclaredMethods()) {
            if (Modifier.isPublic(method.getModifiers())) FACE.put(method.getName(), method);
        }
        WORDS.put("BAD", -1000000001);
        WORDS.put("NO", -1000000002);
        WORDS.put("FULL", -1000000003);
        WORDS.put("NONE", -1000000005);
        WORDS.put("NOTHING", -1000000011);
        WORDS.put("KIND", -1000000012);
        WORDS.put("INDEX", -1000000013);
        WORDS.put("SIZE", -1000000014);
        WORDS.put("MIN", Integer.MIN_VALUE);
        WORDS.put("MAX", Integer.MAX_VALUE);
    }

    private final AtticStars object = new AtticStars();
    private final List<String> wrong = new ArrayList<>();
    private final StringBuilder story = new StringBuilder();
    private int calls;
    private int seen;

    /** The last answer. */
    int rows(String rows) {
        int answer = 0;
        for (String step : steps(rows)) answer = step(step);
        return answer;
    }

    /** What was wrong since this was asked last, with the row up to there. */
    List<String> wrong() {
        List<String> now = new ArrayList<>(wrong);
        wrong.clear();
        return now;
    }

    /** How many answers were held against what is due, since this was asked last. */
    int seen() {
        int now = seen;
        seen = 0;
        return now;
    }

    /** A row at its ; signs, but for those within a text. */
    static List<String> steps(String rows) {
        List<String> steps = new ArrayList<>();
        boolean quoted = false;
        int from = 0;
        for (int i = 0; i <= rows.length(); i++) {
            if (i < rows.length() && rows.charAt(i) == '\'') quoted = !quoted;
            if (i == rows.length() || rows.charAt(i) == ';' && !quoted) {
                String step = rows.substring(from, i).trim();
                if (!step.isEmpty()) steps.add(step);
                from = i + 1;
            }
        }
        return steps;
    }

    private int step(String step) {
        Matcher parts = STEP.matcher(step);
        if (!parts.matches()) throw new IllegalArgumentException("no step: " + step);
        int times = parts.group(1) == null ? 1 : Integer.parseInt(parts.group(1));
        int answer = 0;
        for (int i = 0; i < times; i++) {
            answer = parts.group(4) == null ? call(parts.group(2), numbers(parts.group(3))) : tape(parts.group(2), parts.group(4));
            if (i == 0 || i == times - 1) story.append(step.replaceAll(" = \\S+$", "")).append(" = ").append(answer).append("; ");
            if (parts.group(5) != null) hold(answer, number(parts.group(5)));
        }
        return answer;
    }

    private void hold(int answer, int due) {
        seen++;
        if (answer != due) wrong.add(story + "due is " + due);
    }

    private static int number(String word) {
        return WORDS.containsKey(word) ? WORDS.get(word) : Integer.parseInt(word);
    }

    private static int[] numbers(String words) {
        if (words.isBlank()) return new int[0];
        String[] all = words.trim().split(" +");
        int[] numbers = new int[all.length];
        for (int i = 0; i < all.length; i++) numbers[i] = number(all[i]);
        return numbers;
    }

    private int tape(String act, String bytes) {
        int before = call("count", 6);
        for (int from = 0; from < bytes.length(); from += 12) {
            int[] three = new int[3];
            for (int i = 0; i < 12; i++) {
                int one = from + i < bytes.length() ? bytes.charAt(from + i) & 255 : 0;
                three[i / 4] = three[i / 4] << 8 | one;
            }
            call("feed", three);
        }
        int has = call("trim", before + bytes.length());
        return act.equals("text") ? call("text") : has;
    }

    /** An exception is an answer that is never due: rule 7 of LANGUAGE.md. */
    int call(String name, int... given) {
        if (++calls > MOST_CALLS) throw new IllegalStateException("more than 512 calls: " + story);
        Object[] boxed = new Object[given.length];
        for (int i = 0; i < given.length; i++) boxed[i] = given[i];
        Method method = FACE.get(name);
        if (method == null) throw new IllegalArgumentException("not of the face: " + name);
        try {
            return (Integer) method.invoke(object, boxed);
        } catch (InvocationTargetException thrown) {
            wrong.add(story + name + " threw " + thrown.getCause());
            return 0;
        } catch (IllegalAccessException closed) {
            throw new IllegalStateException(closed);
        }
    }
}

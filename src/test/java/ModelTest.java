import java.lang.reflect.InvocationTargetException;
import java.lang.reflect.Method;
import java.util.ArrayList;
import java.util.Arrays;
import java.util.List;
import java.util.Random;

/** Runs of calls by lot, on the class and on the model of it: both must answer the same, and none may throw. */
public final class ModelTest {
    private static final int RUNS = 1500, MOST_CALLS = 512;
    private static final Due due = new Due();
    private static final List<Method> FACE = new ArrayList<>();
    private static final String[] NAMES = {"pnhw", "to", "co"};
    private static final String[] KEYS = {"want", "fee", "fine"};
    private static final String SPOILERS = "   ()!|&<=>+-*/pnhwtoc0123456789wantfeefine.%A\n\u0000\u00ff";

    private AtticStars x = new AtticStars();
    private final Model m = new Model();
    private final Random lot;
    private final StringBuilder story = new StringBuilder();
    private int calls;
    private boolean wrong;

    private ModelTest(int run) {
        lot = new Random(run);
    }

    public static void main(String[] args) throws Exception {
        for (Method method : AtticStars.class.getDeclaredMethods()) {
            if (java.lang.reflect.Modifier.isPublic(method.getModifiers())) FACE.add(method);
        }
        FACE.sort((a, b) -> a.getName().compareTo(b.getName()));
        due.is("methods of the face", FACE.size(), 43);
        int from = args.length > 0 ? Integer.parseInt(args[0]) : 0;
        int runs = args.length > 1 ? Integer.parseInt(args[1]) : RUNS;
        for (int run = from; run < from + runs; run++) {
            ModelTest test = new ModelTest(run);
            test.play(run);
            due.holds("run " + run + " goes wrong:" + test.story, !test.wrong);
            if (test.wrong) break;
        }
        due.end("ModelTest");
    }

    private void play(int run) throws Exception {
        boolean wild = run % 5 == 4;
        if (!wild) begin();
        if (run % 50 == 7) late();
        while (calls < MOST_CALLS && !wrong) {
            int kind = lot.nextInt(12);
            if (kind == 0 && !wild) law();
            else if (kind == 1 && !wild) rows();
            else any(wild);
        }
    }

    private void begin() throws Exception {
        call("seed", lot.nextInt());
        call("deal", 1 + lot.nextInt(8));
        if (lot.nextBoolean()) call("rule", 1, lot.nextInt(101));
        if (lot.nextBoolean()) call("rule", 0, lot.nextInt(101));
        for (int i = 0; i < 8; i++) if (lot.nextBoolean()) call("set", i, 3, lot.nextInt(lot.nextBoolean() ? 100 : 10000));
        for (int b = 0; b < 24; b++) if (lot.nextInt(4) == 0) call("chimney", b, 1);
    }

    /** Nearly to the last hour. */
    private void late() throws Exception {
        for (int i = 0; i < 99; i++) call("hours", 100);
        call("hours", 60 + lot.nextInt(40));
    }

    private void any(boolean wild) throws Exception {
        Method method = FACE.get(lot.nextInt(FACE.size()));
        boolean dear = List.of("turned", "stands", "becomes", "like", "debt", "rises").contains(method.getName());
        if (dear && lot.nextInt(4) != 0) return;
        int[] given = new int[method.getParameterCount()];
        for (int i = 0; i < given.length; i++) given[i] = argument(wild);
        if (!wild && method.getName().equals("hours") && lot.nextInt(3) != 0) given[0] = 1 + lot.nextInt(30);
        if (!wild && method.getName().equals("back") && lot.nextInt(3) != 0) return;
        if (!wild && method.getName().equals("sheet") && lot.nextInt(3) != 0) given[1] = lot.nextInt(2);
        call(method.getName(), given);
    }

    private int argument(boolean wild) {
        int[] edges = {Integer.MIN_VALUE, Integer.MAX_VALUE, -1, AtticStars.NONE, 24, 12, 13, 8, 96, 97, 100, 101, 200, 255,
            256, 999, 1000, 9999, 10000, 99999, 100000, -99999, 60, 61, 30, 31, 5, 6, 32, 33, 64};
        switch (lot.nextInt(wild ? 8 : 16)) {
            case 0: return edges[lot.nextInt(edges.length)];
            case 1: return wild ? lot.nextInt() : lot.nextInt(10000);
            case 2: return lot.nextInt(62);
            case 3: return lot.nextInt(256);
            case 4: return lot.nextInt(24);
            case 5: return -lot.nextInt(3);
            case 6:
            case 7:
            case 8: return lot.nextInt(8);
            default: return lot.nextInt(4);
        }
    }

    private void law() throws Exception {
        int key = lot.nextInt(3);
        StringBuilder text = new StringBuilder();
        blank(text, 4);
        text.append(KEYS[key]).append(' ');
        expression(text, key, 3);
        blank(text, 4);
        for (int spoils = lot.nextInt(3) == 0 ? 1 + lot.nextInt(3) : 0; spoils > 0; spoils--) spoil(text);
        if (text.length() > 96) text.setLength(96);
        if (lot.nextInt(6) != 0) call("trim", 0);
        int before = m.tape.size();
        int room = (96 - before) / 12 * 12;
        if (text.length() > room) text.setLength(room);
        for (int from = 0; from < text.length(); from += 12) {
            int[] three = new int[3];
            for (int i = 0; i < 12; i++) {
                int b = from + i < text.length() ? text.charAt(from + i) & 255 : lot.nextInt(256);
                three[i / 4] = three[i / 4] << 8 | b;
            }
            call("feed", three);
        }
        call("trim", before + text.length());
        call("text");
    }

    private void blank(StringBuilder text, int seldom) {
        while (lot.nextInt(seldom) == 0) text.append(' ');
    }

    private void expression(StringBuilder text, int key, int deep) {
        piece(text, key, deep);
        while (lot.nextInt(5) < 3 && text.length() < 80) {
            blank(text, 5);
            text.append("||&&<=>+-*/+-*/".charAt(lot.nextInt(15)));
            blank(text, 5);
            piece(text, key, deep);
        }
    }

    private void piece(StringBuilder text, int key, int deep) {
        int kind = lot.nextInt(10);
        if (kind < 2 && deep > 0) {
            text.append('(');
            expression(text, key, deep - 1);
            text.append(')');
        } else if (kind == 2) {
            for (int i = lot.nextInt(20) == 0 ? 9 : 1; i > 0; i--) text.append('!');
            piece(text, key, deep);
        } else if (kind == 3 && lot.nextInt(4) == 0) {
            int many = 7 + lot.nextInt(3);
            for (int i = 0; i < many; i++) text.append(lot.nextInt(3) == 0 ? "!(" : "(");
            piece(text, key, 0);
            for (int i = 0; i < many; i++) text.append(')');
        } else if (kind < 6) {
            text.append(lot.nextInt(lot.nextInt(30) == 0 ? 100000 : lot.nextBoolean() ? 10000 : 12));
        } else {
            text.append(NAMES[key].charAt(lot.nextInt(NAMES[key].length())));
        }
    }

    private void spoil(StringBuilder text) {
        int at = lot.nextInt(text.length());
        char with = SPOILERS.charAt(lot.nextInt(SPOILERS.length()));
        switch (lot.nextInt(4)) {
            case 0: text.setCharAt(at, with); break;
            case 1: text.insert(at, with); break;
            case 2: if (text.length() > 1) text.deleteCharAt(at); break;
            default: text.setLength(Math.max(1, at)); break;
        }
    }

    private void rows() throws Exception {
        if (m.image == null || lot.nextInt(3) == 0) call("keep");
        int n = 1 + lot.nextInt(lot.nextBoolean() ? 4 : 12);
        List<Integer> told = m.hoursTold(n);
        if (lot.nextInt(2) == 0 && !told.isEmpty()) {
            int at = lot.nextInt(told.size());
            switch (lot.nextInt(3)) {
                case 0: told.set(at, told.get(at) + lot.nextInt(3) - 1); break;
                case 1: told.remove(at); break;
                default: told.add(lot.nextInt(100)); break;
            }
        }
        if (lot.nextInt(4) != 0) call("check", 0);
        for (int v : told) call("tell", v);
        call("check", n);
    }

    private void call(String name, int... given) throws Exception {
        if (calls >= MOST_CALLS || wrong) return;
        calls++;
        Class<?>[] ints = new Class<?>[given.length];
        Object[] boxed = new Object[given.length];
        for (int i = 0; i < given.length; i++) {
            ints[i] = int.class;
            boxed[i] = given[i];
        }
        Object wanted = Model.class.getDeclaredMethod(name, ints).invoke(m, boxed);
        Object got;
        try {
            got = AtticStars.class.getDeclaredMethod(name, ints).invoke(x, boxed);
        } catch (InvocationTargetException thrown) {
            got = thrown.getCause();
        }
        wrong = !wanted.equals(got);
        story.append("\n  ").append(name).append(Arrays.toString(given)).append(" = ").append(got);
        if (wrong) story.append(", due is ").append(wanted);
    }
}

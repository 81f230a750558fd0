import java.util.ArrayList;
import java.util.List;
import java.util.TreeSet;

/**
 * The document once more, written another way and slowly: kinds as classes, sets as sets, texts as words that are
 * split at their loosest sign, copies instead of rows that are used again. ModelTest holds the class against it.
 */
final class Model {
    static final int BAD = -1000000001, NO = -1000000002, FULL = -1000000003, NONE = -1000000005;
    static final int NOTHING = -1000000011, KIND = -1000000012, INDEX = -1000000013, SIZE = -1000000014;

    World w = new World();
    World image;
    final List<Integer> tape = new ArrayList<>();
    final List<Integer> waiting = new ArrayList<>();
    final Row[] rows = new Row[4];
    final Object[] slots = new Object[5];

    static boolean in(int v, int low, int high) {
        return low <= v && v <= high;
    }

    static class Plain {
        World w;
        int faces, width, coin, owes;

        int wide() { return width; }
        boolean hiddenBehind(int bearing) { return true; }
        int rent() { return want(); }

        final boolean looksAt(int bearing) {
            for (int i = 0; i < wide(); i++) if ((faces + i) % 24 == bearing) return true;
            return false;
        }

        final TreeSet<Integer> sees() {
            TreeSet<Integer> seen = new TreeSet<>();
            for (int star = 0; star < 8; star++) {
                int at = w.at(star);
                if (looksAt(at) && !(w.chimneys.contains(at) && hiddenBehind(at))) seen.add(star);
            }
            return seen;
        }

        final int want() {
            int prices = 0;
            for (int star : sees()) prices += w.price[star];
            Words law = w.law("want");
            if (law == null) return prices;
            int gives = law.value("pnhw", prices, sees().size(), w.hour, wide());
            return gives < 0 ? 0 : gives > 9999 ? 9999 : gives;
        }
    }

    static class Gap extends Plain {
        @Override int wide() { return super.wide() / 2 + 1; }
        @Override int rent() { return super.rent() == 0 ? 0 : super.rent() - 1; }
    }

    static class Shared extends Gap {
        @Override int rent() { return super.rent() / 2; }
    }

    static class Gable extends Plain {
        @Override int wide() { return super.wide() + 2; }
        @Override boolean hiddenBehind(int bearing) { return bearing % 2 == 1; }
        @Override int rent() { return super.rent() + 3; }
    }

    static class Dormer extends Gable {
        @Override int wide() { return super.wide() > 12 ? 24 : 2 * super.wide(); }
        @Override boolean hiddenBehind(int bearing) { return false; }
        @Override int rent() { return super.rent() + sees().size(); }
    }

    static class Curtain extends Plain {
        @Override int wide() { return w.hour % 2 == 0 ? super.wide() : 0; }
    }

    static final Class<?>[] CLASSES = {Plain.class, Gap.class, Gable.class, Shared.class, Dormer.class, Curtain.class};

    static Plain made(World w, int kind, int faces, int width, int coin, int owes) {
        Plain a = kind == 0 ? new Plain() : kind == 1 ? new Gap() : kind == 2 ? new Gable()
            : kind == 3 ? new Shared() : kind == 4 ? new Dormer() : new Curtain();
        a.w = w;
        a.faces = faces;
        a.width = width;
        a.coin = coin;
        a.owes = owes;
        return a;
    }

    static int kindOf(Plain a) {
        for (int kind = 0; kind < 6; kind++) if (a.getClass() == CLASSES[kind]) return kind;
        throw new IllegalStateException();
    }

    static Plain madeAs(World w, int kind, Plain a) {
        return made(w, kind, a.faces, a.width, a.coin, a.owes);
    }

    static final class World {
        int[] home = {0, 3, 6, 9, 12, 15, 18, 21};
        int[] price = {5, 5, 5, 5, 5, 5, 5, 5};
        TreeSet<Integer> chimneys = new TreeSet<>();
        int[] rules = {10, 0, 50};
        int taken, prayed, hour;
        int z = 1;
        List<Plain> attics = new ArrayList<>();
        List<Words> laws = new ArrayList<>();

        World copy() {
            World c = new World();
            c.home = home.clone();
            c.price = price.clone();
            c.chimneys = new TreeSet<>(chimneys);
            c.rules = rules.clone();
            c.taken = taken;
            c.prayed = prayed;
            c.hour = hour;
            c.z = z;
            for (Plain a : attics) c.attics.add(madeAs(c, kindOf(a), a));
            c.laws = new ArrayList<>(laws);
            return c;
        }

        int at(int star) { return (home[star] + hour) % 24; }

        Words law(String key) {
            Words last = null;
            for (Words law : laws) if (law.words.get(0).equals(key)) last = law;
            return last;
        }

        int draw() {
            long next = (long) z * 1103515245L + 12345L;
            z = (int) next;
            return (int) ((next & 0xFFFFFFFFL) >> 8);
        }

        World passed(int n) {
            for (int i = 0; i < n; i++) {
                int first = draw();
                int second = draw();
                if (first % 100 < rules[0]) {
                    prayed++;
                } else {
                    for (Plain a : attics) {
                        for (int rent = a.rent(); rent > 0; rent--) {
                            if (a.coin > 0) {
                                a.coin--;
                                taken++;
                            } else if (a.owes < 9999) {
                                a.owes++;
                            }
                        }
                    }
                }
                if (second % 100 < rules[1]) {
                    int bearing = draw() % 24;
                    if (!chimneys.remove(bearing)) chimneys.add(bearing);
                }
                if (hour % 24 == 6) for (Plain a : attics) a.coin = Math.min(9999, a.coin + rules[2]);
                hour++;
            }
            return this;
        }

        int owed() { return attics.stream().mapToInt(a -> a.owes).sum(); }
    }

    static final class Row {
        boolean floats;
        Integer[] places; // null: no number

        Row(boolean floats, int n) {
            this.floats = floats;
            places = new Integer[n];
            for (int i = 0; i < n; i++) places[i] = 0;
        }

        Row copy() {
            Row c = new Row(floats, 0);
            c.places = places.clone();
            return c;
        }
    }

    /** A tape in words and signs, with the place of its fault or -1, found by what may come next. */
    static final class Words {
        final List<String> words = new ArrayList<>();
        final List<Integer> begins = new ArrayList<>();
        final List<Boolean> stuck = new ArrayList<>();
        final int fault;

        Words(List<Integer> tape) {
            int i = 0;
            boolean touching = false;
            while (i < tape.size()) {
                int b = tape.get(i);
                if (b == 32) {
                    touching = false;
                    i++;
                    continue;
                }
                StringBuilder word = new StringBuilder();
                int from = i;
                word.append((char) b);
                i++;
                if (sort(b) != 0) while (i < tape.size() && sort(tape.get(i)) == sort(b)) word.append((char) (int) tape.get(i++));
                words.add(word.toString());
                begins.add(from);
                stuck.add(touching && sort(b) != 0);
                touching = sort(b) != 0;
            }
            fault = findFault(tape.size());
        }

        static int sort(int b) { return b >= 'a' && b <= 'z' ? 1 : b >= '0' && b <= '9' ? 2 : 0; }

        int findFault(int end) {
            List<Integer> notsAhead = new ArrayList<>();
            List<Boolean> compared = new ArrayList<>(List.of(false));
            int nots = 0;
            boolean operand = true;
            for (int i = 0; i < words.size(); i++) {
                String word = words.get(i);
                if (stuck.get(i)) return begins.get(i);
                if (i == 0) {
                    if (!List.of("want", "fee", "fine").contains(word)) return begins.get(i);
                    continue;
                }
                int open = nots + notsAhead.stream().mapToInt(v -> v).sum();
                int last = compared.size() - 1;
                if (operand) {
                    if (word.equals("!") && open < 8) {
                        nots++;
                    } else if (word.equals("(") && notsAhead.size() < 8) {
                        notsAhead.add(nots);
                        compared.add(false);
                        nots = 0;
                    } else if (isLeaf(word)) {
                        nots = 0;
                        operand = false;
                    } else {
                        return begins.get(i);
                    }
                } else if (word.equals(")") && !notsAhead.isEmpty()) {
                    notsAhead.remove(notsAhead.size() - 1);
                    compared.remove(last);
                } else if ("+-*/".contains(word)) {
                    operand = true;
                } else if ("<=>".contains(word) && word.length() == 1 && !compared.get(last)) {
                    compared.set(last, true);
                    operand = true;
                } else if ("&|".contains(word) && word.length() == 1) {
                    compared.set(last, false);
                    operand = true;
                } else {
                    return begins.get(i);
                }
            }
            return operand || !notsAhead.isEmpty() ? end : -1;
        }

        boolean isLeaf(String word) {
            if (sort(word.charAt(0)) == 2) return word.length() <= 4;
            String names = words.get(0).equals("want") ? "pnhw" : words.get(0).equals("fee") ? "to" : "co";
            return word.length() == 1 && names.contains(word);
        }

        int leaves() {
            int n = 0;
            for (int i = 1; i < words.size(); i++) if (isLeaf(words.get(i))) n++;
            return n;
        }

        int value(String names, int... given) { return value(1, words.size(), names, given); }

        private int value(int from, int to, String names, int[] given) {
            for (String signs : new String[] {"|", "&", "<=>", "+-", "*/"}) {
                int depth = 0;
                for (int i = to - 1; i >= from; i--) {
                    String word = words.get(i);
                    if (word.equals(")")) depth++;
                    if (word.equals("(")) depth--;
                    if (depth == 0 && word.length() == 1 && signs.contains(word)) {
                        return join(word.charAt(0), value(from, i, names, given), value(i + 1, to, names, given));
                    }
                }
            }
            String word = words.get(from);
            if (word.equals("!")) return value(from + 1, to, names, given) == 0 ? 1 : 0;
            if (word.equals("(")) return value(from + 1, to - 1, names, given);
            return sort(word.charAt(0)) == 2 ? Integer.parseInt(word) : given[names.indexOf(word)];
        }

        static int join(char sign, int a, int b) {
            boolean yes = sign == '|' ? a != 0 || b != 0 : sign == '&' ? a != 0 && b != 0
                : sign == '<' ? a < b : sign == '>' ? a > b : sign == '=' && a == b;
            return sign == '+' ? a + b : sign == '-' ? a - b : sign == '*' ? a * b
                : sign == '/' ? (b == 0 ? 0 : (int) ((long) a / b)) : yes ? 1 : 0;
        }
    }

    boolean is(int attic) { return in(attic, 0, w.attics.size() - 1); }

    static int bits(Iterable<Integer> set) {
        int bits = 0;
        for (int i : set) bits |= 1 << i;
        return bits;
    }

    int attic(int kind, int faces, int width) {
        if (!in(kind, 0, 5) || !in(faces, 0, 23) || !in(width, 1, 12)) return BAD;
        if (w.attics.size() == 8) return FULL;
        w.attics.add(made(w, kind, faces, width, 0, 0));
        return w.attics.size() - 1;
    }

    int told(int attic, int what) {
        if (!is(attic) || !in(what, 0, 7)) return BAD;
        Plain a = w.attics.get(attic);
        if (what == 6) return bits(a.sees());
        if (what == 7) return a.rent();
        return new int[] {kindOf(a), a.faces, a.width, a.coin, a.owes, a.wide()}[what];
    }

    int as(int attic, int kind) {
        if (!is(attic) || !in(kind, 0, 5)) return BAD;
        return CLASSES[kind].isInstance(w.attics.get(attic)) ? w.attics.get(attic).coin : KIND;
    }

    int turns(int attic, int kind) {
        if (!is(attic) || !in(kind, 0, 5)) return BAD;
        Plain a = w.attics.get(attic);
        w.attics.set(attic, madeAs(w, kind, a));
        return kindOf(a);
    }

    int set(int attic, int what, int v) {
        if (!is(attic) || !in(what, 1, 4) || !in(v, what == 2 ? 1 : 0, new int[] {0, 23, 12, 9999, 9999}[what])) return BAD;
        int was = told(attic, what);
        Plain a = w.attics.get(attic);
        if (what == 1) a.faces = v;
        if (what == 2) a.width = v;
        if (what == 3) a.coin = v;
        if (what == 4) a.owes = v;
        return was;
    }

    int star(int star, int what, int v) {
        if (!in(star, 0, 7) || !in(what, 0, 1) || !in(v, 0, what == 0 ? 23 : 99)) return BAD;
        int[] of = what == 0 ? w.home : w.price;
        int was = of[star];
        of[star] = v;
        return was;
    }

    int starOf(int star, int what) {
        if (!in(star, 0, 7) || !in(what, 0, 3)) return BAD;
        if (what < 2) return (what == 0 ? w.home : w.price)[star];
        if (what == 2) return w.at(star);
        TreeSet<Integer> who = new TreeSet<>();
        for (int i = 0; i < w.attics.size(); i++) if (w.attics.get(i).sees().contains(star)) who.add(i);
        return bits(who);
    }

    int chimney(int bearing, int v) {
        if (!in(bearing, 0, 23) || !in(v, 0, 1)) return BAD;
        boolean was = v == 1 ? !w.chimneys.add(bearing) : w.chimneys.remove(bearing);
        return was ? 1 : 0;
    }

    int smokes(int bearing) { return !in(bearing, 0, 23) ? BAD : w.chimneys.contains(bearing) ? 1 : 0; }

    int rule(int what, int v) {
        if (!in(what, 0, 2) || !in(v, 0, what == 2 ? 999 : 100)) return BAD;
        int was = w.rules[what];
        w.rules[what] = v;
        return was;
    }

    int deal(int n) {
        if (!in(n, 1, 8)) return BAD;
        int came = 0;
        while (came < n && w.attics.size() < 8) {
            int kind = w.draw() % 6;
            int faces = w.draw() % 24;
            attic(kind, faces, w.draw() % 12 + 1);
            came++;
        }
        return came;
    }

    int seed(int v) {
        int was = w.z;
        w.z = v;
        return was;
    }

    int hours(int n) {
        if (!in(n, 1, 100)) return BAD;
        int was = w.taken;
        w.passed(Math.min(n, 9999 - w.hour));
        return w.taken - was;
    }

    int town(int what) {
        int coin = 0, rent = 0, seen = 0;
        for (Plain a : w.attics) {
            coin += a.coin;
            rent += a.rent();
            seen |= bits(a.sees());
        }
        return !in(what, 0, 6) ? BAD
            : new int[] {w.taken, w.owed(), w.prayed, w.chimneys.size(), coin, 255 - seen, rent}[what];
    }

    int cover(int stars) {
        if (!in(stars, 0, 255)) return BAD;
        for (int many = 0; many <= w.attics.size(); many++) {
            for (int set = 0; set < 1 << w.attics.size(); set++) {
                int seen = 0;
                for (int i = 0; i < 8; i++) if ((set & 1 << i) != 0) seen |= bits(w.attics.get(i).sees());
                if (Integer.bitCount(set) == many && (seen | stars) == seen) return set;
            }
        }
        return NONE;
    }

    int behind(int n, int what) {
        if (!in(n, 0, 100) || !in(what, 0, 2) && !is(what - 3) || what < 0) return BAD;
        World c = w.copy().passed(n);
        return what == 0 ? c.taken : what == 1 ? c.prayed : what == 2 ? c.chimneys.size() : c.attics.get(what - 3).coin;
    }

    int debt(int attic, int v) {
        if (!is(attic) || !in(v, 0, 9999)) return BAD;
        World c = w.copy();
        for (int n = 0; n <= 200; n++, c.passed(1)) if (c.attics.get(attic).owes >= v) return n;
        return NONE;
    }

    int rises(int attic, int star) {
        if (!is(attic) || !in(star, 0, 7)) return BAD;
        World c = w.copy();
        for (int n = 0; n <= 200; n++, c.passed(1)) if (c.attics.get(attic).sees().contains(star)) return n;
        return NONE;
    }

    private static int most(int[] takes, int what) {
        int best = -1;
        for (int i = takes.length - 1; i >= 0; i--) if (takes[i] >= 0 && (best < 0 || takes[i] >= takes[best])) best = i;
        return best < 0 ? NONE : what == 0 ? best : takes[best];
    }

    int turned(int attic, int n, int what) {
        if (!is(attic) || !in(n, 1, 60) || !in(what, 0, 1)) return BAD;
        int[] takes = new int[24];
        for (int b = 0; b < 24; b++) {
            World c = w.copy();
            c.attics.get(attic).faces = b;
            takes[b] = c.passed(n).taken;
        }
        return most(takes, what);
    }

    int stands(int n, int what) {
        if (!in(n, 1, 60) || !in(what, 0, 1)) return BAD;
        int[] takes = new int[24];
        for (int b = 0; b < 24; b++) {
            World c = w.copy();
            takes[b] = c.chimneys.add(b) ? c.passed(n).taken : -1;
        }
        return most(takes, what);
    }

    int becomes(int attic, int n, int what) {
        if (!is(attic) || !in(n, 1, 60) || !in(what, 0, 1)) return BAD;
        int[] takes = new int[6];
        for (int kind = 0; kind < 6; kind++) {
            World c = w.copy();
            c.attics.set(attic, madeAs(c, kind, c.attics.get(attic)));
            takes[kind] = c.passed(n).taken;
        }
        return most(takes, what);
    }

    int like(int sheet, int what) {
        if (!in(sheet, 0, 3) || !in(what, 0, 1)) return BAD;
        if (rows[sheet] == null) return NOTHING;
        int best = NONE, least = Integer.MAX_VALUE;
        for (int i = 0; i < w.attics.size(); i++) {
            int sum = 0;
            for (int k = 0; k < rows[sheet].places.length; k++) {
                Integer v = rows[sheet].places[k];
                if (v != null) sum += Math.abs(w.copy().passed(k).attics.get(i).rent() - v);
            }
            if (sum < least) {
                least = sum;
                best = i;
            }
        }
        return best == NONE ? NONE : what == 0 ? best : least;
    }

    int fee() {
        Words law = w.law("fee");
        return law == null ? w.taken : law.value("to", w.taken, w.owed());
    }

    int fine(int attic) {
        if (!is(attic)) return BAD;
        Plain a = w.attics.get(attic);
        Words law = w.law("fine");
        return law == null ? a.owes : law.value("co", a.coin, a.owes);
    }

    int feed(int a, int b, int c) {
        if (tape.size() > 84) return FULL;
        for (int v : new int[] {a, b, c}) for (int i = 3; i >= 0; i--) tape.add(v >> 8 * i & 255);
        return tape.size();
    }

    int trim(int n) {
        if (!in(n, 0, tape.size())) return BAD;
        while (tape.size() > n) tape.remove(tape.size() - 1);
        return n;
    }

    int text() {
        Words words = new Words(tape);
        tape.clear();
        if (words.fault >= 0) return -100 - words.fault;
        if (w.laws.size() == 14) return FULL;
        w.laws.add(words);
        return w.laws.size() - 1;
    }

    int textTold(int text, int what) {
        if (!in(text, 0, w.laws.size() - 1) || !in(what, 0, 1)) return BAD;
        Words law = w.laws.get(text);
        return what == 1 ? law.leaves() : List.of("want", "fee", "fine").indexOf(law.words.get(0));
    }

    int why(int key) {
        if (!in(key, 0, 2)) return BAD;
        int at = w.laws.indexOf(w.law(new String[] {"want", "fee", "fine"}[key]));
        return at < 0 ? NONE : at;
    }

    int sheet(int sheet, int sort, int n) {
        if (!in(sheet, 0, 3) || !in(sort, -1, 1) || sort >= 0 && n > 24) return BAD;
        if (sort >= 0 && n < 0) return SIZE;
        rows[sheet] = sort < 0 ? null : new Row(sort == 1, n);
        return sort < 0 ? 0 : n;
    }

    int mark(int sheet, int place, int v) {
        if (!in(sheet, 0, 3)) return BAD;
        Row row = rows[sheet];
        if (row == null) return NOTHING;
        if (!in(place, 0, row.places.length - 1)) return INDEX;
        if (!row.floats && v == NONE) return KIND;
        if (row.floats && v != NONE && !in(v, -99999, 99999)) return BAD;
        row.places[place] = !row.floats ? Integer.valueOf((short) v) : v == NONE ? null : Integer.valueOf(v);
        return 1;
    }

    int pour(int sheet) {
        if (!in(sheet, 0, 3)) return BAD;
        if (rows[sheet] == null) return NOTHING;
        int[] were = w.price.clone();
        int changed = 0;
        for (int k = 0; k < 8 && k < rows[sheet].places.length; k++) {
            Integer v = rows[sheet].places[k];
            if (v != null) w.price[k] = v < 0 ? 0 : v > 99 ? 99 : v;
            if (w.price[k] != were[k]) changed++;
        }
        return changed;
    }

    int reads(int sheet) {
        if (!in(sheet, 0, 3)) return BAD;
        if (rows[sheet] == null) return NOTHING;
        for (int k = 0; k < rows[sheet].places.length; k++) {
            Integer v = rows[sheet].places[k];
            if (v != null && (k >= w.attics.size() || w.attics.get(k).faces != v)) return k;
        }
        return NONE;
    }

    int copy(int from, int place, int to, int at, int many) {
        if (!in(from, 0, 3) || !in(to, 0, 3)) return BAD;
        Row a = rows[from], b = rows[to];
        if (a == null || b == null) return NOTHING;
        if (a.floats != b.floats) return KIND;
        if (many < 0 || place < 0 || at < 0 || (long) place + many > a.places.length || (long) at + many > b.places.length) return INDEX;
        Integer[] were = a.places.clone();
        for (int i = 0; i < many; i++) b.places[at + i] = were[place + i];
        return many;
    }

    private int holds(int slot) {
        Object o = slots[slot];
        return o == null ? 0 : o instanceof Plain ? 1 : o instanceof Row ? 2 : 3;
    }

    int lay(int slot, int thing, int k) {
        if (!in(slot, 0, 4) || !in(thing, 0, 3) || thing == 1 && !is(k) || thing == 2 && !in(k, 0, 3)) return BAD;
        if (thing == 2 && rows[k] == null) return NOTHING;
        int was = holds(slot);
        slots[slot] = thing == 0 ? null : thing == 1 ? madeAs(null, kindOf(w.attics.get(k)), w.attics.get(k))
            : thing == 2 ? rows[k].copy() : Integer.valueOf(k);
        return was;
    }

    int ask(int slot, int kind) {
        if (!in(slot, 0, 4) || !in(kind, 0, 5)) return BAD;
        if (slots[slot] == null) return NOTHING;
        if (!CLASSES[kind].isInstance(slots[slot])) return KIND;
        Plain a = (Plain) slots[slot];
        a.w = w;
        return a.wide();
    }

    int item(int slot, int place) {
        if (!in(slot, 0, 4)) return BAD;
        if (slots[slot] == null) return NOTHING;
        if (holds(slot) != 2) return KIND;
        Row row = (Row) slots[slot];
        if (!in(place, 0, row.places.length - 1)) return INDEX;
        return row.places[place] == null ? KIND : row.places[place];
    }

    int rest(int slot, int n) {
        if (!in(slot, 0, 4)) return BAD;
        if (slots[slot] == null) return NOTHING;
        if (holds(slot) != 3) return KIND;
        return n == 0 ? NO : (int) ((long) (Integer) slots[slot] % n);
    }

    int tell(int v) {
        if (waiting.size() == 60) return FULL;
        waiting.add(v);
        return waiting.size();
    }

    /** The rows that are due, for tests that tell them. */
    List<Integer> hoursTold(int n) {
        List<Integer> due = new ArrayList<>();
        World c = image.copy();
        for (int i = 0; i < n && c.hour < 9999; i++) {
            c.passed(1);
            due.add(c.taken);
            due.add(c.owed());
        }
        return due;
    }

    int check(int n) {
        List<Integer> told = new ArrayList<>(waiting);
        waiting.clear();
        if (!in(n, 1, 30)) return BAD;
        if (image == null) return NO;
        List<Integer> due = hoursTold(n);
        int same = 0;
        while (same < told.size() && same < due.size() && told.get(same).equals(due.get(same))) same++;
        return same == told.size() && same == due.size() ? 0 : 1 + same;
    }

    int keep() {
        image = w.copy();
        return w.attics.size();
    }

    int back() {
        if (image == null) return NO;
        w = image.copy();
        return w.attics.size();
    }

    int count(int what) {
        return !in(what, 0, 7) ? BAD : new int[] {w.attics.size(), w.hour, w.taken, w.prayed, w.laws.size(),
            waiting.size(), tape.size(), w.z}[what];
    }
}

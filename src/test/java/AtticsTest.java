/** Promises 1 to 13: a new object, attics, stars, chimneys, rules, lots. */
public final class AtticsTest {
    private static final int BAD = AtticStars.BAD;
    private static final Due due = new Due();

    public static void main(String[] args) {
        newObject();
        atticsCome();
        atticsAreTold();
        hiddenStars();
        rents();
        kindsUnderOneAnother();
        turning();
        setting();
        stars();
        chimneys();
        rules();
        lots();
        seeds();
        due.end("AtticsTest");
    }

    private static void newObject() {
        AtticStars x = new AtticStars();
        int[] counts = {0, 0, 0, 0, 0, 0, 0, 1};
        int[] town = {0, 0, 0, 0, 0, 255, 0};
        for (int what = 0; what < 8; what++) due.is("new: count " + what, x.count(what), counts[what]);
        for (int what = 0; what < 7; what++) due.is("new: town " + what, x.town(what), town[what]);
        for (int k = 0; k < 8; k++) {
            due.is("new: home", x.starOf(k, 0), 3 * k);
            due.is("new: price", x.starOf(k, 1), 5);
            due.is("new: stands", x.starOf(k, 2), 3 * k);
            due.is("new: watchers", x.starOf(k, 3), 0);
        }
        for (int b = 0; b < 24; b++) due.is("new: smokes", x.smokes(b), 0);
        due.is("new: clouds", x.rule(0, 10), 10);
        due.is("new: smoke", x.rule(1, 0), 0);
        due.is("new: wage", x.rule(2, 50), 50);
        for (int key = 0; key < 3; key++) due.is("new: why", x.why(key), AtticStars.NONE);
        for (int s = 0; s < 4; s++) due.is("new: sheets", x.reads(s), AtticStars.NOTHING);
        for (int s = 0; s < 5; s++) due.is("new: slots", x.rest(s, 1), AtticStars.NOTHING);
        due.is("new: image", x.back(), AtticStars.NO);
        due.is("new: told", x.told(0, 0), BAD);
    }

    private static void atticsCome() {
        AtticStars x = new AtticStars();
        int[][] wrong = {{-1, 0, 1}, {6, 0, 1}, {0, -1, 1}, {0, 24, 1}, {0, 0, 0}, {0, 0, 13},
            {Integer.MIN_VALUE, 0, 1}, {0, Integer.MAX_VALUE, 1}, {0, 0, Integer.MIN_VALUE}};
        for (int[] w : wrong) due.is("attic wrong", x.attic(w[0], w[1], w[2]), BAD);
        due.is("none came", x.count(0), 0);
        int[][] right = {{0, 0, 1}, {5, 23, 12}, {1, 7, 3}, {2, 8, 4}, {3, 9, 5}, {4, 10, 6}, {0, 1, 2}, {5, 2, 9}};
        for (int i = 0; i < 8; i++) {
            due.is("attic", x.attic(right[i][0], right[i][1], right[i][2]), i);
            for (int what = 0; what < 3; what++) due.is("as made", x.told(i, what), right[i][what]);
            due.is("coin", x.told(i, 3), 0);
            due.is("owes", x.told(i, 4), 0);
        }
        due.is("ninth", x.attic(0, 0, 1), AtticStars.FULL);
        for (int[] w : wrong) due.is("BAD stands ahead of FULL", x.attic(w[0], w[1], w[2]), BAD);
        due.is("eight", x.count(0), 8);
    }

    /** All kinds from bearing 22, 4 wide: the stars stand at 0, 3, 6 .. 21. */
    private static AtticStars oneOfEach() {
        AtticStars x = new AtticStars();
        for (int kind = 0; kind < 6; kind++) x.attic(kind, 22, 4);
        return x;
    }

    private static void row(String what, AtticStars x, int of, int... wanted) {
        for (int i = 0; i < wanted.length; i++) due.is(what + " of attic " + i, x.told(i, of), wanted[i]);
    }

    private static void atticsAreTold() {
        AtticStars x = oneOfEach();
        row("kind", x, 0, 0, 1, 2, 3, 4, 5);
        row("faces", x, 1, 22, 22, 22, 22, 22, 22);
        row("width", x, 2, 4, 4, 4, 4, 4, 4);
        row("wide", x, 5, 4, 3, 6, 3, 12, 4);
        row("sees", x, 6, 1, 1, 3, 1, 15, 1);
        row("rent", x, 7, 5, 4, 13, 2, 27, 5);
        x.rule(0, 100);
        x.hours(1);
        row("wide at an odd hour", x, 5, 4, 3, 6, 3, 12, 0);
        row("sees at an odd hour", x, 6, 129, 128, 129, 128, 135, 0);
        row("rent at an odd hour", x, 7, 10, 4, 13, 2, 27, 0);
        for (int kind = 0; kind < 6; kind++) x.set(kind, 2, 1);
        row("wide of 1", x, 5, 1, 1, 3, 1, 6, 0);
        for (int kind = 0; kind < 6; kind++) x.set(kind, 2, 5);
        row("wide of 5", x, 5, 5, 3, 7, 3, 14, 0);
        for (int kind = 0; kind < 6; kind++) x.set(kind, 2, 10);
        row("wide of 10", x, 5, 10, 6, 12, 6, 24, 0);
        for (int kind = 0; kind < 6; kind++) x.set(kind, 2, 12);
        row("wide of 12", x, 5, 12, 7, 14, 7, 24, 0);
        due.is("dormer sees all", x.told(4, 6), 255);
        due.is("told of no attic", x.told(6, 0), BAD);
        due.is("told of no attic", x.told(-1, 0), BAD);
        due.is("told what", x.told(0, 8), BAD);
        due.is("told what", x.told(0, -1), BAD);
    }

    private static void hiddenStars() {
        AtticStars x = oneOfEach();
        x.chimney(0, 1);
        row("behind 0", x, 6, 0, 0, 3, 0, 15, 0);
        x.chimney(3, 1);
        row("behind 0 and 3", x, 6, 0, 0, 1, 0, 15, 0);
        row("rent behind them", x, 7, 0, 0, 8, 0, 27, 0);
        x.chimney(0, 0);
        row("behind 3", x, 6, 1, 1, 1, 1, 15, 1);
    }

    private static void rents() {
        AtticStars x = oneOfEach();
        x.star(0, 1, 0);
        row("for nothing", x, 7, 0, 0, 8, 0, 22, 0);
        x.star(0, 1, 1);
        row("for 1", x, 7, 1, 0, 9, 0, 23, 1);
        x.star(0, 1, 99);
        row("for 99", x, 7, 99, 98, 107, 49, 121, 99);
        Due.law(x, "want 0-5");
        row("below 0", x, 7, 0, 0, 3, 0, 7, 0);
        Due.law(x, "want 9999*2");
        row("above 9999", x, 7, 9999, 9998, 10002, 4999, 10006, 9999);
        Due.law(x, "want p*100+n*10+w");
        row("by names", x, 7, 9914, 9912, 9999 + 3, 4956, 9999 + 3 + 4, 9914);
        Due.law(x, "want h+7");
        x.rule(0, 100);
        x.hours(5);
        row("by the hour", x, 7, 12, 11, 15, 5, 15 + Integer.bitCount(x.told(4, 6)), 12);
    }

    private static void kindsUnderOneAnother() {
        AtticStars x = oneOfEach();
        int[] above = {1, 1 | 2, 1 | 4, 1 | 2 | 8, 1 | 4 | 16, 1 | 32};
        for (int i = 0; i < 6; i++) {
            x.set(i, 3, 40 + i);
            for (int kind = 0; kind < 6; kind++) {
                due.is("as " + i + " " + kind, x.as(i, kind), (above[i] >> kind & 1) == 1 ? 40 + i : AtticStars.KIND);
            }
        }
        int[][] wrong = {{6, 0}, {-1, 0}, {0, 6}, {0, -1}, {7, 7}};
        for (int[] w : wrong) due.is("as wrong", x.as(w[0], w[1]), BAD);
    }

    private static void turning() {
        AtticStars x = oneOfEach();
        due.is("turns", x.turns(0, 4), 0);
        due.is("turns", x.turns(0, 4), 4);
        due.is("turns", x.turns(3, 0), 3);
        due.is("a plain one", x.told(3, 0), 0);
        due.is("turned", x.told(0, 0), 4);
        due.is("as dormer", x.as(0, 2), 0);
        due.is("wide", x.told(0, 5), 12);
        String before = Due.look(x);
        int[][] wrong = {{6, 0}, {-1, 0}, {0, 6}, {0, -1}};
        for (int[] w : wrong) due.is("turns wrong", x.turns(w[0], w[1]), BAD);
        due.holds("a refused turns changes", before.equals(Due.look(x)));
    }

    private static void setting() {
        AtticStars x = oneOfEach();
        int[][] edges = {{1, 0, 23}, {2, 1, 12}, {3, 0, 9999}, {4, 0, 9999}};
        int[] first = {22, 4, 0, 0};
        for (int i = 0; i < 4; i++) {
            int what = edges[i][0];
            due.is("set low", x.set(5, what, edges[i][1]), first[i]);
            due.is("set high", x.set(5, what, edges[i][2]), edges[i][1]);
            due.is("set", x.told(5, what), edges[i][2]);
            String before = Due.look(x);
            due.is("too low", x.set(5, what, edges[i][1] - 1), BAD);
            due.is("too high", x.set(5, what, edges[i][2] + 1), BAD);
            due.holds("a refused set changes", before.equals(Due.look(x)));
        }
        for (int what : new int[] {0, 5, -1, Integer.MAX_VALUE}) due.is("set what", x.set(0, what, 1), BAD);
        due.is("set no attic", x.set(6, 1, 1), BAD);
        due.is("set no attic", x.set(-1, 1, 1), BAD);
    }

    private static void stars() {
        AtticStars x = oneOfEach();
        due.is("home", x.star(7, 0, 23), 21);
        due.is("home again", x.star(7, 0, 0), 23);
        due.is("price", x.star(7, 1, 99), 5);
        due.is("price again", x.star(7, 1, 0), 99);
        due.is("starOf home", x.starOf(7, 0), 0);
        due.is("starOf price", x.starOf(7, 1), 0);
        due.is("watchers", x.starOf(7, 3), 63);
        due.is("watchers", x.starOf(1, 3), 4 | 16);
        due.is("watchers", x.starOf(3, 3), 16);
        due.is("watchers", x.starOf(4, 3), 0);
        x.rule(0, 100);
        x.hours(27);
        due.is("stands", x.starOf(7, 2), 3);
        due.is("stands", x.starOf(6, 2), 21);
        due.is("home stays", x.starOf(6, 0), 18);
        String before = Due.look(x);
        int[][] wrong = {{8, 0, 0}, {-1, 0, 0}, {0, 2, 0}, {0, -1, 0}, {0, 0, 24}, {0, 0, -1}, {0, 1, 100}, {0, 1, -1}};
        for (int[] w : wrong) due.is("star wrong", x.star(w[0], w[1], w[2]), BAD);
        due.holds("a refused star changes", before.equals(Due.look(x)));
        int[][] unknown = {{8, 0}, {-1, 0}, {0, 4}, {0, -1}};
        for (int[] w : unknown) due.is("starOf wrong", x.starOf(w[0], w[1]), BAD);
    }

    private static void chimneys() {
        AtticStars x = new AtticStars();
        for (int b : new int[] {0, 11, 23}) {
            due.is("none stood", x.chimney(b, 0), 0);
            due.is("none stood", x.chimney(b, 1), 0);
            due.is("smokes", x.smokes(b), 1);
            due.is("one stood", x.chimney(b, 1), 1);
            due.is("smokes still", x.smokes(b), 1);
        }
        due.is("three", x.town(3), 3);
        due.is("one stood", x.chimney(11, 0), 1);
        due.is("gone", x.smokes(11), 0);
        int[][] wrong = {{24, 1}, {-1, 1}, {0, 2}, {0, -1}, {32, 0}};
        for (int[] w : wrong) due.is("chimney wrong", x.chimney(w[0], w[1]), BAD);
        for (int b : new int[] {24, -1, 32, Integer.MIN_VALUE}) due.is("smokes wrong", x.smokes(b), BAD);
        due.is("two", x.town(3), 2);
    }

    private static void rules() {
        AtticStars x = new AtticStars();
        int[] first = {10, 0, 50};
        int[] most = {100, 100, 999};
        for (int what = 0; what < 3; what++) {
            due.is("rule", x.rule(what, most[what]), first[what]);
            due.is("rule", x.rule(what, 0), most[what]);
            due.is("rule high", x.rule(what, most[what] + 1), BAD);
            due.is("rule low", x.rule(what, -1), BAD);
            due.is("rule stays", x.rule(what, 1), 0);
        }
        due.is("rule what", x.rule(3, 0), BAD);
        due.is("rule what", x.rule(-1, 0), BAD);
    }

    private static void lots() {
        AtticStars x = new AtticStars();
        due.is("deal none", x.deal(0), BAD);
        due.is("deal nine", x.deal(9), BAD);
        due.is("deal below", x.deal(-1), BAD);
        due.is("no draw", x.count(7), 1);
        due.is("deal", x.deal(3), 3);
        row("kinds", x, 0, 2, 5, 4);
        row("faces", x, 1, 8, 7, 14);
        row("widths", x, 2, 1, 1, 5);
        due.is("nine draws", x.count(7), -1084965762);
        for (int i = 0; i < 4; i++) x.attic(0, 0, 1);
        x.seed(1);
        due.is("room for one", x.deal(8), 1);
        due.is("its kind", x.told(7, 0), 2);
        due.is("three draws", x.count(7), 662824084);
        due.is("no room", x.deal(1), 0);
        due.is("no draws", x.count(7), 662824084);
        due.is("BAD without room", x.deal(9), BAD);
    }

    private static void seeds() {
        AtticStars x = new AtticStars();
        for (int[] pair : new int[][] {{Integer.MIN_VALUE, 1}, {-7, Integer.MIN_VALUE}, {0, -7}, {1, 0}}) {
            due.is("seed", x.seed(pair[0]), pair[1]);
            due.is("z", x.count(7), pair[0]);
        }
        x.hours(1);
        due.is("two draws", x.count(7), -1770082073);
    }
}

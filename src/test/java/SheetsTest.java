/** Promises 31 to 39: sheets and slots. */
public final class SheetsTest {
    private static final int BAD = AtticStars.BAD, NO = AtticStars.NO, NONE = AtticStars.NONE;
    private static final int NOTHING = AtticStars.NOTHING, KIND = AtticStars.KIND;
    private static final int INDEX = AtticStars.INDEX, SIZE = AtticStars.SIZE;
    private static final Due due = new Due();

    public static void main(String[] args) {
        sheets();
        marks();
        pours();
        reads();
        copies();
        refusedCopies();
        lays();
        asks();
        items();
        rests();
        due.end("SheetsTest");
    }

    /** The place of a sheet, by way of slot 4. */
    private static int at(AtticStars x, int sheet, int place) {
        x.lay(4, 2, sheet);
        return x.item(4, place);
    }

    private static void sheets() {
        AtticStars x = new AtticStars();
        due.is("sheet", x.sheet(0, 0, 24), 24);
        due.is("sheet", x.sheet(3, 1, 0), 0);
        due.is("all 0", at(x, 0, 23), 0);
        due.is("no more", at(x, 0, 24), INDEX);
        x.mark(0, 0, 8);
        x.mark(0, 5, 9);
        due.is("anew", x.sheet(0, 0, 10), 10);
        due.is("all 0 again", at(x, 0, 0), 0);
        due.is("all 0 again", at(x, 0, 5), 0);
        due.is("shorter", at(x, 0, 10), INDEX);
        due.is("missing", x.sheet(0, -1, 77), 0);
        due.is("it is", x.reads(0), NOTHING);
        due.is("missing, below", x.sheet(0, -1, -5), 0);
        x.sheet(1, 1, 3);
        x.mark(1, 2, 8);
        int[][] bad = {{-1, 0, 1}, {4, 0, 1}, {1, -2, 1}, {1, 2, 1}, {1, 0, 25}, {1, 1, Integer.MAX_VALUE}, {4, -1, 0},
            {4, 0, -1}, {1, 2, -1}};
        for (int[] b : bad) due.is("sheet wrong", x.sheet(b[0], b[1], b[2]), BAD);
        due.is("below 0", x.sheet(1, 0, -1), SIZE);
        due.is("below 0", x.sheet(1, 1, Integer.MIN_VALUE), SIZE);
        due.is("it stays", at(x, 1, 2), 8);
    }

    private static void marks() {
        AtticStars x = new AtticStars();
        x.sheet(0, 0, 3);
        x.sheet(1, 1, 3);
        int[][] shorts = {{32767, 32767}, {32768, -32768}, {-32769, 32767}, {65536 + 7, 7}, {-1, -1},
            {BAD, (short) BAD}, {Integer.MAX_VALUE, -1}};
        for (int[] s : shorts) {
            due.is("mark", x.mark(0, 2, s[0]), 1);
            due.is("short", at(x, 0, 2), s[1]);
        }
        due.is("no number", x.mark(0, 2, NONE), KIND);
        due.is("it stays", at(x, 0, 2), -1);
        for (int v : new int[] {-99999, 99999, 0, 40000}) {
            due.is("mark", x.mark(1, 0, v), 1);
            due.is("float", at(x, 1, 0), v);
        }
        for (int v : new int[] {-100000, 100000, BAD, NO, Integer.MIN_VALUE}) due.is("float wrong", x.mark(1, 0, v), BAD);
        due.is("it stays", at(x, 1, 0), 40000);
        due.is("no number", x.mark(1, 0, NONE), 1);
        due.is("it is none", at(x, 1, 0), KIND);
        due.is("a number again", x.mark(1, 0, 3), 1);
        due.is("it is one", at(x, 1, 0), 3);
        due.is("others stay", at(x, 1, 1), 0);
        due.is("sheet", x.mark(4, 0, 0), BAD);
        due.is("sheet", x.mark(-1, 0, 0), BAD);
        due.is("missing ahead of place", x.mark(2, -1, 0), NOTHING);
        due.is("place", x.mark(0, 3, 0), INDEX);
        due.is("place ahead of KIND", x.mark(0, -1, NONE), INDEX);
        due.is("place ahead of v", x.mark(1, 3, 100000), INDEX);
        x.sheet(2, 0, 0);
        due.is("no place", x.mark(2, 0, 0), INDEX);
    }

    private static void pours() {
        AtticStars x = new AtticStars();
        x.sheet(0, 1, 24);
        int[] places = {5, NONE, -3, 100, 99999, 0, 6, NONE, 44};
        for (int k = 0; k < 9; k++) x.mark(0, k, places[k]);
        due.is("otherwise", x.pour(0), 5);
        int[] prices = {5, 5, 0, 99, 99, 0, 6, 5};
        for (int k = 0; k < 8; k++) due.is("price " + k, x.starOf(k, 1), prices[k]);
        due.is("once more", x.pour(0), 0);
        x.sheet(1, 0, 2);
        x.mark(1, 0, -1);
        x.mark(1, 1, 300);
        due.is("two", x.pour(1), 2);
        due.is("held", x.starOf(0, 1), 0);
        due.is("held", x.starOf(1, 1), 99);
        due.is("beyond", x.starOf(2, 1), 0);
        due.is("beyond", x.starOf(6, 1), 6);
        x.sheet(1, 0, 0);
        due.is("none", x.pour(1), 0);
        due.is("missing", x.pour(3), NOTHING);
        due.is("pour wrong", x.pour(4), BAD);
        due.is("pour wrong", x.pour(-1), BAD);
    }

    private static void reads() {
        AtticStars x = new AtticStars();
        x.attic(0, 7, 1);
        x.attic(0, 23, 1);
        x.sheet(0, 1, 4);
        due.is("the first", x.reads(0), 0);
        x.mark(0, 0, 7);
        due.is("the second", x.reads(0), 1);
        x.mark(0, 1, 23);
        due.is("no attic", x.reads(0), 2);
        x.mark(0, 2, NONE);
        due.is("no attic", x.reads(0), 3);
        x.mark(0, 3, NONE);
        due.is("all", x.reads(0), NONE);
        x.mark(0, 0, NONE);
        due.is("numbers alone", x.reads(0), NONE);
        x.set(1, 1, 22);
        due.is("turned", x.reads(0), 1);
        x.sheet(1, 0, 0);
        due.is("empty", x.reads(1), NONE);
        x.sheet(1, 0, 1);
        x.mark(1, 0, 7);
        due.is("shorter", x.reads(1), NONE);
        due.is("missing", x.reads(2), NOTHING);
        due.is("reads wrong", x.reads(4), BAD);
        due.is("reads wrong", x.reads(-1), BAD);
    }

    private static void row(AtticStars x, int sheet, int... wanted) {
        for (int k = 0; k < wanted.length; k++) due.is("sheet " + sheet + " place " + k, at(x, sheet, k), wanted[k]);
    }

    private static AtticStars rows() {
        AtticStars x = new AtticStars();
        x.sheet(0, 0, 5);
        x.sheet(1, 0, 3);
        x.sheet(2, 1, 3);
        for (int k = 0; k < 5; k++) x.mark(0, k, k + 1);
        return x;
    }

    private static void copies() {
        AtticStars x = rows();
        due.is("upwards", x.copy(0, 0, 0, 1, 4), 4);
        row(x, 0, 1, 1, 2, 3, 4);
        due.is("downwards", x.copy(0, 2, 0, 0, 3), 3);
        row(x, 0, 2, 3, 4, 3, 4);
        due.is("to another", x.copy(0, 1, 1, 0, 3), 3);
        row(x, 1, 3, 4, 3);
        due.is("none", x.copy(0, 5, 1, 3, 0), 0);
        due.is("none", x.copy(0, 0, 1, 0, 0), 0);
        row(x, 1, 3, 4, 3);
        x.mark(2, 0, NONE);
        x.mark(2, 1, 77777);
        due.is("floats", x.copy(2, 0, 2, 1, 2), 2);
        row(x, 2, KIND, KIND, 77777);
    }

    private static void refusedCopies() {
        AtticStars x = rows();
        int big = Integer.MAX_VALUE;
        int low = Integer.MIN_VALUE;
        int[][] wrong = {{-1, 0, 0, 0, 0, BAD}, {4, 0, 0, 0, 0, BAD}, {0, 0, -1, 0, 0, BAD}, {0, 0, 4, 0, 0, BAD},
            {3, 0, 4, 0, 0, BAD}, {3, 0, 0, 0, 0, NOTHING}, {0, 0, 3, 0, 0, NOTHING}, {0, -1, 3, 0, 0, NOTHING},
            {0, 0, 2, 0, 1, KIND}, {2, -1, 0, 0, 0, KIND}, {0, 0, 1, 0, 4, INDEX}, {0, 3, 1, 0, 3, INDEX},
            {0, 0, 1, 1, 3, INDEX}, {0, 0, 0, 0, -1, INDEX}, {0, -1, 0, 0, 1, INDEX}, {0, 0, 0, -1, 1, INDEX},
            {0, 6, 1, 0, 0, INDEX}, {0, 0, 1, 4, 0, INDEX}, {0, big, 0, 0, 1, INDEX}, {0, 0, 0, 1, big, INDEX},
            {0, 1, 0, big, big, INDEX}, {0, low, 0, 0, low, INDEX}, {0, 0, 0, 0, low, INDEX}, {0, big, 0, big, big, INDEX}};
        for (int[] w : wrong) due.is("copy wrong", x.copy(w[0], w[1], w[2], w[3], w[4]), w[5]);
        row(x, 0, 1, 2, 3, 4, 5);
        row(x, 1, 0, 0, 0);
    }

    private static void lays() {
        AtticStars x = new AtticStars();
        x.attic(0, 0, 5);
        x.sheet(0, 0, 2);
        x.mark(0, 0, 6);
        due.is("held nothing", x.lay(0, 1, 0), 0);
        due.is("held an attic", x.lay(0, 2, 0), 1);
        due.is("held a sheet", x.lay(0, 3, Integer.MIN_VALUE), 2);
        due.is("held a number", x.lay(0, 0, 12345), 3);
        due.is("held nothing", x.lay(0, 0, -1), 0);
        x.lay(1, 2, 0);
        x.mark(0, 0, 7);
        due.is("as it was then", x.item(1, 0), 6);
        x.sheet(0, -1, 0);
        due.is("a row of its own", x.item(1, 0), 6);
        x.lay(2, 1, 0);
        x.set(0, 2, 9);
        x.turns(0, 4);
        due.is("for good", x.ask(2, 0), 5);
        x.keep();
        x.back();
        due.is("no image keeps it", x.ask(2, 0), 5);
        x.lay(3, 3, 11);
        int[][] wrong = {{-1, 0, 0}, {5, 0, 0}, {3, -1, 0}, {3, 4, 0}, {3, 1, 1}, {3, 1, -1}, {3, 2, 4}, {3, 2, -1}, {5, 2, 0}};
        for (int[] w : wrong) due.is("lay wrong", x.lay(w[0], w[1], w[2]), BAD);
        due.is("missing", x.lay(3, 2, 0), NOTHING);
        due.is("missing", x.lay(3, 2, 3), NOTHING);
        due.is("it stays", x.rest(3, 100), 11);
        due.is("last slot", x.lay(4, 3, 1), 0);
    }

    private static void asks() {
        AtticStars x = new AtticStars();
        int[] wide = {6, 4, 8, 4, 16, 6};
        int[] above = {1, 1 | 2, 1 | 4, 1 | 2 | 8, 1 | 4 | 16, 1 | 32};
        x.rule(0, 100);
        for (int kind = 0; kind < 6; kind++) {
            x.attic(kind, 0, 6);
            x.lay(0, 1, kind);
            for (int as = 0; as < 6; as++) {
                due.is("ask " + kind + " as " + as, x.ask(0, as), (above[kind] >> as & 1) == 1 ? wide[kind] : KIND);
            }
        }
        x.hours(1);
        due.is("by the hour as it is", x.ask(0, 0), 0);
        due.is("slot", x.ask(5, 0), BAD);
        due.is("slot", x.ask(-1, 0), BAD);
        due.is("kind ahead of nothing", x.ask(1, 6), BAD);
        due.is("kind", x.ask(0, -1), BAD);
        due.is("nothing", x.ask(1, 0), NOTHING);
        x.lay(1, 3, 0);
        due.is("a number", x.ask(1, 0), KIND);
        x.sheet(0, 0, 1);
        x.lay(1, 2, 0);
        due.is("a sheet", x.ask(1, 0), KIND);
    }

    private static void items() {
        AtticStars x = new AtticStars();
        x.sheet(0, 1, 2);
        x.mark(0, 0, -99999);
        x.mark(0, 1, NONE);
        due.is("nothing", x.item(0, 0), NOTHING);
        x.lay(0, 2, 0);
        due.is("a place", x.item(0, 0), -99999);
        due.is("no number", x.item(0, 1), KIND);
        due.is("no place", x.item(0, 2), INDEX);
        due.is("no place", x.item(0, -1), INDEX);
        x.lay(1, 3, 4);
        due.is("no sheet", x.item(1, -1), KIND);
        x.attic(0, 0, 1);
        x.lay(1, 1, 0);
        due.is("no sheet", x.item(1, 0), KIND);
        due.is("slot", x.item(5, 0), BAD);
        due.is("slot", x.item(-1, 0), BAD);
    }

    private static void rests() {
        AtticStars x = new AtticStars();
        due.is("nothing", x.rest(0, 0), NOTHING);
        int[][] rests = {{7, 3, 1}, {-7, 3, -1}, {7, -3, 1}, {-7, -3, -1}, {6, 3, 0},
            {Integer.MIN_VALUE, -1, 0}, {Integer.MIN_VALUE, 10, -8}, {5, Integer.MIN_VALUE, 5}};
        for (int[] r : rests) {
            x.lay(0, 3, r[0]);
            due.is("rest", x.rest(0, r[1]), r[2]);
        }
        due.is("by 0", x.rest(0, 0), NO);
        x.attic(0, 0, 1);
        x.lay(1, 1, 0);
        due.is("no number", x.rest(1, 0), KIND);
        x.sheet(0, 0, 1);
        x.lay(1, 2, 0);
        due.is("no number", x.rest(1, 1), KIND);
        due.is("slot", x.rest(5, 0), BAD);
        due.is("slot", x.rest(-1, 1), BAD);
    }
}

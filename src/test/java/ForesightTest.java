/** Promises 17 to 25: what will be, and what the laws of fee and fine give. */
public final class ForesightTest {
    private static final int BAD = AtticStars.BAD, NONE = AtticStars.NONE;
    private static final int SMOKE_AT_0_IN_HOUR_198 = 11;
    private static final Due due = new Due();

    public static void main(String[] args) {
        behind();
        debt();
        rises();
        turned();
        stands();
        becomes();
        like();
        fee();
        fine();
        nothingChanges();
        due.end("ForesightTest");
    }

    /** A plain attic with coin, clear skies, no wages. */
    private static AtticStars plain(int faces, int width, int coin) {
        AtticStars x = new AtticStars();
        x.rule(0, 0);
        x.rule(2, 0);
        x.attic(0, faces, width);
        x.set(0, 3, coin);
        return x;
    }

    private static void behind() {
        AtticStars x = plain(0, 12, 50);
        x.attic(1, 0, 1);
        x.set(1, 3, 17);
        due.is("now", x.behind(0, 0), 0);
        due.is("now", x.behind(0, 3), 50);
        due.is("now", x.behind(0, 4), 17);
        due.is("behind 1", x.behind(1, 0), 24);
        due.is("behind 3", x.behind(3, 3), 0);
        due.is("behind 4: 50 and a gap at 0 and 3", x.behind(4, 0), 58);
        due.is("behind 4", x.behind(4, 4), 9);
        due.is("prayed", x.behind(100, 1), 0);
        x.rule(0, 100);
        due.is("prayed", x.behind(100, 1), 100);
        x.hours(2);
        due.is("all that was prayed", x.behind(100, 1), 102);
        due.is("chimneys", x.behind(1, 2), 0);
        x.seed(1);
        x.rule(1, 33);
        x.chimney(3, 1);
        due.is("one chimney more", x.behind(1, 2), 2);
        due.is("it stands only in thought", x.town(3), 1);
        x.chimney(12, 1);
        due.is("one chimney less", x.behind(1, 2), 1);
        int[][] wrong = {{-1, 0}, {101, 0}, {0, -1}, {0, 5}, {5, 11}, {0, Integer.MAX_VALUE}, {Integer.MIN_VALUE, 0}};
        for (int[] w : wrong) due.is("behind wrong", x.behind(w[0], w[1]), BAD);
        due.is("no attic", new AtticStars().behind(0, 3), BAD);
    }

    private static void debt() {
        AtticStars x = plain(0, 12, 50);
        int[][] pairs = {{0, 0}, {1, 3}, {10, 3}, {11, 4}, {30, 4}, {31, 5}, {3950, 200}, {3951, NONE}, {9999, NONE}};
        for (int[] p : pairs) due.is("debt " + p[0], x.debt(0, p[0]), p[1]);
        x.set(0, 4, 9999);
        due.is("owes it now", x.debt(0, 9999), 0);
        int[][] wrong = {{1, 0}, {-1, 0}, {0, -1}, {0, 10000}};
        for (int[] w : wrong) due.is("debt wrong", x.debt(w[0], w[1]), BAD);
    }

    private static void rises() {
        AtticStars x = plain(0, 1, 0);
        int[] hours = {0, 21, 18, 15, 12, 9, 6, 3};
        for (int k = 0; k < 8; k++) due.is("rises " + k, x.rises(0, k), hours[k]);
        x.turns(0, 5);
        for (int k = 0; k < 8; k++) due.is("behind curtains " + k, x.rises(0, k), k % 2 == 0 ? hours[k] : NONE);
        x.turns(0, 0);
        x.chimney(0, 1);
        due.is("behind a chimney", x.rises(0, 0), NONE);
        x.rule(1, 1);
        x.seed(SMOKE_AT_0_IN_HOUR_198);
        x.star(0, 0, 16);
        x.star(1, 0, 15);
        due.is("at the last hour", x.rises(0, 0), 200);
        due.is("behind the last hour", x.rises(0, 1), NONE);
        int[][] wrong = {{1, 0}, {-1, 0}, {0, -1}, {0, 8}};
        for (int[] w : wrong) due.is("rises wrong", x.rises(w[0], w[1]), BAD);
    }

    private static void turned() {
        AtticStars x = plain(20, 1, 9999);
        for (int k = 0; k < 8; k++) x.star(k, 1, k == 2 ? 10 : 0);
        due.is("to the dear star", x.turned(0, 1, 0), 6);
        due.is("it brings", x.turned(0, 1, 1), 10);
        due.is("of several the least", x.turned(0, 2, 0), 6);
        due.is("it brings", x.turned(0, 2, 1), 10);
        x.star(2, 0, 23);
        due.is("round", x.turned(0, 2, 0), 0);
        due.is("a day and more", x.turned(0, 25, 0), 23);
        due.is("a day and more", x.turned(0, 25, 1), 20);
        due.is("sixty", x.turned(0, 60, 1), 30);
        due.is("it faces as it did", x.told(0, 1), 20);
        x.set(0, 1, 23);
        x.hours(1);
        due.is("all that is taken", x.turned(0, 1, 1), 20);
        int[][] wrong = {{1, 1, 0}, {-1, 1, 0}, {0, 0, 0}, {0, 61, 0}, {0, 1, 2}, {0, 1, -1}};
        for (int[] w : wrong) due.is("turned wrong", x.turned(w[0], w[1], w[2]), BAD);
    }

    private static void stands() {
        AtticStars x = plain(0, 12, 9999);
        due.is("between stars", x.stands(1, 0), 1);
        due.is("no harm", x.stands(1, 1), 20);
        due.is("where it does not look", x.stands(3, 0), 12);
        due.is("no harm", x.stands(3, 1), 60);
        x.chimney(1, 1);
        x.chimney(2, 1);
        due.is("where none stands", x.stands(1, 0), 4);
        due.is("none is put up", x.town(3), 2);
        for (int b = 0; b < 24; b++) x.chimney(b, b == 9 ? 0 : 1);
        due.is("the only one", x.stands(1, 0), 9);
        due.is("with harm", x.stands(1, 1), 0);
        due.is("sixty", x.stands(60, 0), 9);
        x.chimney(9, 1);
        due.is("none is left", x.stands(1, 0), NONE);
        due.is("none is left", x.stands(1, 1), NONE);
        int[][] wrong = {{0, 0}, {61, 0}, {1, 2}, {1, -1}};
        for (int[] w : wrong) due.is("BAD stands ahead of NONE", x.stands(w[0], w[1]), BAD);
        due.is("no attics", new AtticStars().stands(60, 0), 0);
    }

    private static void becomes() {
        AtticStars x = plain(0, 2, 9999);
        due.is("a dormer", x.becomes(0, 1, 0), 4);
        due.is("it brings", x.becomes(0, 1, 1), 21);
        x.set(0, 3, 8);
        due.is("a gable will do", x.becomes(0, 1, 0), 2);
        x.set(0, 3, 5);
        due.is("an attic will do", x.becomes(0, 1, 0), 0);
        due.is("it brings", x.becomes(0, 1, 1), 5);
        x.set(0, 3, 0);
        due.is("all bring nothing", x.becomes(0, 60, 0), 0);
        due.is("all bring nothing", x.becomes(0, 60, 1), 0);
        due.is("it is as it was", x.told(0, 0), 0);
        int[][] wrong = {{1, 1, 0}, {-1, 1, 0}, {0, 0, 0}, {0, 61, 0}, {0, 1, 2}, {0, 1, -1}};
        for (int[] w : wrong) due.is("becomes wrong", x.becomes(w[0], w[1], w[2]), BAD);
    }

    /** From bearing 0, 1 wide, a star is seen at every third hour, with curtains at every sixth. */
    private static void like() {
        AtticStars x = new AtticStars();
        x.rule(0, 100);
        due.is("NOTHING stands ahead of NONE", x.like(0, 0), AtticStars.NOTHING);
        x.sheet(0, 1, 4);
        due.is("no attics", x.like(0, 0), NONE);
        x.attic(0, 0, 1);
        x.attic(5, 0, 1);
        x.mark(0, 0, 5);
        x.mark(0, 3, 5);
        due.is("the attic", x.like(0, 0), 0);
        due.is("just so", x.like(0, 1), 0);
        x.mark(0, 3, 0);
        due.is("the curtain", x.like(0, 0), 1);
        due.is("just so", x.like(0, 1), 0);
        x.mark(0, 3, NONE);
        due.is("of several the least", x.like(0, 0), 0);
        x.mark(0, 0, -7);
        x.mark(0, 1, 3);
        due.is("signs left out", x.like(0, 1), 15);
        x.sheet(1, 0, 0);
        due.is("an empty row", x.like(1, 0), 0);
        due.is("an empty row", x.like(1, 1), 0);
        x.sheet(2, 0, 24);
        due.is("nothing paid", x.like(2, 0), 1);
        due.is("nothing paid", x.like(2, 1), 20);
        due.is("missing", x.like(3, 0), AtticStars.NOTHING);
        int[][] wrong = {{-1, 0}, {4, 0}, {0, 2}, {3, -1}};
        for (int[] w : wrong) due.is("like wrong", x.like(w[0], w[1]), BAD);
    }

    private static void fee() {
        AtticStars x = plain(0, 12, 30);
        x.hours(3);
        due.is("without a text taken", x.fee(), 30);
        Due.law(x, "fee t*100+o");
        due.is("by the text", x.fee(), 3030);
        Due.law(x, "fee 0-t");
        due.is("by the last text", x.fee(), -30);
        x.attic(0, 0, 1);
        x.set(1, 4, 7);
        Due.law(x, "fee o");
        due.is("what all owe", x.fee(), 37);
    }

    private static void fine() {
        AtticStars x = plain(0, 12, 30);
        x.attic(0, 0, 1);
        x.set(1, 3, 4);
        x.set(1, 4, 9);
        due.is("without a text what it owes", x.fine(1), 9);
        Due.law(x, "fine c*100-o");
        due.is("by the text", x.fine(1), 391);
        due.is("by the text", x.fine(0), 3000);
        due.is("fine wrong", x.fine(2), BAD);
        due.is("fine wrong", x.fine(-1), BAD);
    }

    private static void nothingChanges() {
        AtticStars x = new AtticStars();
        x.seed(77);
        x.deal(8);
        x.rule(1, 50);
        for (int i = 0; i < 8; i++) x.set(i, 3, 500);
        x.sheet(0, 0, 24);
        String before = Due.look(x);
        x.behind(100, 0);
        x.debt(3, 9999);
        x.rises(2, 5);
        x.turned(1, 60, 0);
        x.stands(60, 0);
        x.becomes(4, 60, 1);
        x.like(0, 0);
        x.cover(255);
        due.holds("what is only thought changes something", before.equals(Due.look(x)));
    }
}

/** Promises 40 to 44: numbers that wait, images, counts. */
public final class RowsTest {
    private static final int BAD = AtticStars.BAD, NO = AtticStars.NO, FULL = AtticStars.FULL;
    private static final Due due = new Due();

    public static void main(String[] args) {
        tells();
        checks();
        checkedFromTheImage();
        checkedToTheLastHour();
        images();
        whatAnImageLeaves();
        counts();
        due.end("RowsTest");
    }

    private static void tells() {
        AtticStars x = new AtticStars();
        for (int i = 1; i <= 60; i++) due.is("tell", x.tell(-i), i);
        due.is("sixty wait", x.tell(0), FULL);
        due.is("sixty still", x.count(5), 60);
        due.is("no image", x.check(1), NO);
        due.is("none wait", x.count(5), 0);
        due.is("tell", x.tell(5), 1);
        due.is("BAD stands ahead of NO", x.check(0), BAD);
        due.is("none wait", x.count(5), 0);
        x.keep();
        x.tell(5);
        for (int n : new int[] {0, -1, 31, Integer.MAX_VALUE}) due.is("check " + n, x.check(n), BAD);
        due.is("none wait", x.count(5), 0);
    }

    private static int checked(AtticStars x, int n, int... told) {
        for (int v : told) x.tell(v);
        int answer = x.check(n);
        due.is("none wait", x.count(5), 0);
        return answer;
    }

    /** One attic of 20 an hour with 50: taken 20, 40, 50, 50; owed 0, 0, 10, 30. */
    private static AtticStars kept() {
        AtticStars x = HoursTest.one(50);
        x.rule(0, 0);
        x.keep();
        return x;
    }

    private static void checks() {
        AtticStars x = kept();
        due.is("so it is", checked(x, 4, 20, 0, 40, 0, 50, 10, 50, 30), 0);
        due.is("again", checked(x, 1, 20, 0), 0);
        due.is("the first", checked(x, 4, 21, 0, 40, 0, 50, 10, 50, 30), 1);
        due.is("the second", checked(x, 4, 20, 1, 40, 0, 50, 10, 50, 30), 2);
        due.is("the last", checked(x, 4, 20, 0, 40, 0, 50, 10, 50, 31), 8);
        due.is("missing", checked(x, 4, 20, 0, 40, 0, 50, 10, 50), 8);
        due.is("missing", checked(x, 4, 20), 2);
        due.is("all missing", checked(x, 4), 1);
        due.is("one too many", checked(x, 3, 20, 0, 40, 0, 50, 10, 50), 7);
        due.is("two too many", checked(x, 1, 20, 0, 40, 0), 3);
        due.is("nothing is changed", x.count(1), 0);
        due.is("nothing is taken", x.count(2), 0);
        int[] thirty = new int[60];
        AtticStars y = kept();
        for (int i = 0; i < 30; i++) {
            y.hours(1);
            thirty[2 * i] = y.town(0);
            thirty[2 * i + 1] = y.town(1);
        }
        due.is("thirty", checked(x, 30, thirty), 0);
        thirty[59]++;
        due.is("all but the last", checked(x, 30, thirty), 60);
    }

    private static void checkedFromTheImage() {
        AtticStars x = kept();
        x.hours(3);
        x.set(0, 3, 9999);
        x.attic(0, 0, 1);
        Due.law(x, "want 7");
        due.is("by the image", checked(x, 2, 20, 0, 40, 0), 0);
        due.is("not as it is now", x.count(1), 3);
        x.keep();
        due.is("all that was taken", checked(x, 1, 57, 17), 0);
    }

    private static void checkedToTheLastHour() {
        AtticStars x = new AtticStars();
        x.rule(0, 100);
        for (int i = 0; i < 99; i++) x.hours(100);
        x.hours(97);
        x.keep();
        due.is("two hours are left", checked(x, 30, 0, 0, 0, 0), 0);
        due.is("one too many", checked(x, 30, 0, 0, 0, 0, 0), 5);
        due.is("one missing", checked(x, 2, 0, 0, 0), 4);
        x.hours(2);
        due.is("by the image still", checked(x, 1, 0, 0), 0);
        x.keep();
        due.is("no hour is left", checked(x, 30), 0);
        due.is("one too many", checked(x, 30, 0), 1);
    }

    private static AtticStars busy() {
        AtticStars x = new AtticStars();
        x.seed(99);
        x.deal(5);
        x.rule(0, 30);
        x.rule(1, 40);
        x.rule(2, 60);
        x.star(3, 0, 1);
        x.star(4, 1, 77);
        x.chimney(9, 1);
        Due.law(x, "want p+n");
        Due.law(x, "fee t+o");
        x.set(1, 3, 300);
        x.set(2, 4, 40);
        x.hours(10);
        return x;
    }

    private static void images() {
        AtticStars x = busy();
        due.is("no image", x.back(), NO);
        String then = Due.look(x);
        int ahead = x.behind(100, 0);
        due.is("keep", x.keep(), 5);
        due.holds("keep changes something", then.equals(Due.look(x)));
        for (int again = 0; again < 2; again++) {
            x.hours(50);
            x.deal(3);
            x.turns(0, 4 - x.told(0, 0));
            for (int what = 1; what <= 4; what++) x.set(what, what, x.told(what, what) == 5 ? 6 : 5);
            x.rule(0, 1);
            x.rule(1, 2);
            x.rule(2, 3);
            x.star(3, 0, 2);
            x.star(4, 1, 3);
            x.chimney(9, 1 - x.smokes(9));
            Due.law(x, "want 1");
            Due.law(x, "fine 2");
            due.is("back", x.back(), 5);
            due.holds("back is not as the image", then.equals(Due.look(x)));
            due.is("no fine", x.why(2), AtticStars.NONE);
            due.is("it goes on as it did", x.behind(100, 0), ahead);
        }
        due.is("clouds", x.rule(0, 30), 30);
        due.is("smoke", x.rule(1, 40), 40);
        due.is("wage", x.rule(2, 60), 60);
        x.hours(1);
        due.is("another image", x.keep(), 5);
        x.hours(9);
        x.back();
        due.is("its hour", x.count(1), 11);
        due.is("a text goes on from it", Due.law(x, "fine c"), 2);
        AtticStars y = new AtticStars();
        due.is("an empty town", y.keep(), 0);
        y.deal(8);
        y.set(0, 3, 4);
        y.set(0, 4, 5);
        due.is("an empty town", y.back(), 0);
        due.is("a new attic is new", y.attic(0, 0, 1), 0);
        due.is("its coin", y.told(0, 3), 0);
        due.is("what it owes", y.told(0, 4), 0);
    }

    private static void whatAnImageLeaves() {
        AtticStars x = busy();
        x.sheet(0, 0, 2);
        x.lay(0, 3, 5);
        x.tell(1);
        x.feed(0, 0, 0);
        x.keep();
        x.mark(0, 0, 9);
        x.lay(0, 3, 6);
        x.lay(1, 2, 0);
        x.tell(2);
        x.feed(0, 0, 0);
        x.back();
        due.is("numbers wait", x.count(5), 2);
        due.is("the tape", x.count(6), 24);
        due.is("slots", x.rest(0, 100), 6);
        due.is("slots", x.item(1, 0), 9);
        due.is("sheets", x.reads(0), 0);
        x.lay(2, 2, 0);
        due.is("sheets", x.item(2, 0), 9);
    }

    private static void counts() {
        AtticStars x = busy();
        x.tell(4);
        x.feed(1, 2, 3);
        int[] wanted = {5, 10, x.town(0), x.town(2), 2, 1, 12};
        for (int what = 0; what < 7; what++) due.is("count " + what, x.count(what), wanted[what]);
        due.is("z", x.count(7), x.seed(3));
        due.is("z", x.count(7), 3);
        due.is("count what", x.count(8), BAD);
        due.is("count what", x.count(-1), BAD);
    }
}

/** Promises 14 to 16: hours, the town, covers. From z = 1 the rests of the draws by 100 are 54, 32, 56, 3, 87, 36. */
public final class HoursTest {
    private static final int BAD = AtticStars.BAD;
    private static final int FIRST_REST_0 = 61, FIRST_REST_99 = 18, SECOND_REST_0 = 79, SECOND_REST_99 = 2181;
    private static final Due due = new Due();

    public static void main(String[] args) {
        paying();
        clouds();
        smoke();
        wages();
        bounds();
        lastHour();
        town();
        covers();
        due.end("HoursTest");
    }

    /** One plain attic that sees four stars, 20 in all, at every hour. */
    static AtticStars one(int coin) {
        AtticStars x = new AtticStars();
        x.attic(0, 0, 12);
        x.set(0, 3, coin);
        return x;
    }

    private static void paying() {
        AtticStars x = one(50);
        due.is("first hour", x.hours(1), 20);
        due.is("coin", x.told(0, 3), 30);
        due.is("owes", x.told(0, 4), 0);
        due.is("two more", x.hours(2), 30);
        due.is("coin", x.told(0, 3), 0);
        due.is("owes", x.told(0, 4), 10);
        due.is("taken", x.count(2), 50);
        due.is("hour", x.count(1), 3);
        x.set(0, 4, 9985);
        x.rule(0, 0);
        due.is("nothing there", x.hours(1), 0);
        due.is("owes at most", x.told(0, 4), 9999);
    }

    private static void clouds() {
        AtticStars x = one(50);
        x.rule(0, 55);
        due.is("clouds", x.hours(1), 0);
        due.is("prayed", x.count(3), 1);
        due.is("nothing owed", x.told(0, 4), 0);
        AtticStars y = one(50);
        y.rule(0, 54);
        due.is("no clouds", y.hours(1), 20);
        due.is("not prayed", y.count(3), 0);
        AtticStars w = one(50);
        w.rule(0, 0);
        w.seed(FIRST_REST_0);
        due.is("clear for good", w.hours(1), 20);
        w.rule(0, 100);
        w.seed(FIRST_REST_99);
        due.is("clouds for good", w.hours(1), 0);
    }

    private static void smoke() {
        AtticStars x = one(50);
        x.rule(1, 33);
        x.hours(1);
        due.is("put up", x.smokes(12), 1);
        due.is("one", x.town(3), 1);
        due.is("three draws", x.count(7), 662824084);
        AtticStars y = one(50);
        y.rule(1, 33);
        y.chimney(12, 1);
        y.hours(1);
        due.is("taken down", y.smokes(12), 0);
        AtticStars w = one(50);
        w.rule(1, 32);
        w.hours(1);
        due.is("none", w.town(3), 0);
        due.is("two draws", w.count(7), -1770082073);
        AtticStars v = new AtticStars();
        v.attic(0, 12, 1);
        v.set(0, 3, 50);
        v.rule(1, 100);
        due.is("paid ahead of the smoke", v.hours(1), 5);
        v.seed(SECOND_REST_0);
        v.rule(1, 0);
        int chimneys = v.town(3);
        v.hours(1);
        due.is("no smoke for good", v.town(3), chimneys);
        v.seed(SECOND_REST_99);
        v.rule(1, 100);
        v.hours(1);
        due.is("smoke for good", Math.abs(v.town(3) - chimneys), 1);
        AtticStars u = one(50);
        u.rule(0, 100);
        u.rule(1, 33);
        u.hours(1);
        due.is("smoke under clouds", u.smokes(12), 1);
    }

    private static void wages() {
        AtticStars x = one(0);
        x.attic(5, 0, 1);
        x.set(1, 3, 9960);
        x.rule(0, 100);
        x.hours(6);
        due.is("not yet", x.told(0, 3), 0);
        x.hours(1);
        due.is("wage", x.told(0, 3), 50);
        due.is("at most", x.told(1, 3), 9999);
        x.rule(2, 999);
        x.hours(23);
        due.is("a day less an hour", x.told(0, 3), 50);
        x.hours(1);
        due.is("a day", x.told(0, 3), 1049);
        AtticStars y = one(0);
        y.rule(0, 0);
        due.is("wages come behind the rent", y.hours(7), 0);
        due.is("so it owes", y.told(0, 4), 140);
        due.is("and has", y.told(0, 3), 50);
    }

    private static void bounds() {
        AtticStars x = one(50);
        String before = Due.look(x);
        for (int n : new int[] {0, -1, 101, Integer.MAX_VALUE, Integer.MIN_VALUE}) due.is("hours " + n, x.hours(n), BAD);
        due.holds("a refused hours changes", before.equals(Due.look(x)));
        x.hours(100);
        due.is("a hundred", x.count(1), 100);
    }

    private static void lastHour() {
        AtticStars x = one(9999);
        x.rule(0, 100);
        for (int i = 0; i < 99; i++) x.hours(100);
        due.is("hour", x.count(1), 9900);
        x.hours(98);
        x.rule(0, 0);
        x.set(0, 3, 100);
        due.is("one hour is left", x.hours(100), 20);
        due.is("last hour", x.count(1), 9999);
        int z = x.count(7);
        due.is("no hour is left", x.hours(1), 0);
        due.is("no draw", x.count(7), z);
        due.is("last hour still", x.count(1), 9999);
        due.is("thought goes on", x.behind(1, 0), 40);
    }

    private static void town() {
        AtticStars x = new AtticStars();
        x.attic(0, 0, 4);
        x.attic(2, 9, 1);
        x.set(0, 3, 30);
        x.set(1, 3, 7);
        x.set(1, 4, 5);
        x.chimney(20, 1);
        x.chimney(22, 1);
        x.rule(0, 0);
        due.is("dark", x.town(5), 255 & ~(1 | 2 | 8));
        due.is("rent of all", x.town(6), 18);
        x.hours(1);
        due.is("taken", x.town(0), 17);
        due.is("owed", x.town(1), 6);
        due.is("coin", x.town(4), 20);
        due.is("chimneys", x.town(3), 2);
        due.is("prayed", x.town(2), 0);
        x.rule(0, 100);
        x.hours(2);
        due.is("prayed", x.town(2), 2);
        due.is("town what", x.town(7), BAD);
        due.is("town what", x.town(-1), BAD);
    }

    private static void covers() {
        AtticStars x = new AtticStars();
        x.attic(0, 0, 1);
        x.attic(0, 3, 1);
        x.attic(0, 0, 4);
        x.attic(0, 0, 4);
        x.attic(0, 6, 1);
        x.attic(0, 3, 4);
        due.is("of none", x.cover(0), 0);
        due.is("of one", x.cover(1), 1);
        due.is("of one", x.cover(2), 2);
        due.is("of one", x.cover(4), 16);
        due.is("of two", x.cover(3), 4);
        due.is("of two", x.cover(6), 32);
        due.is("of two apart", x.cover(5), 1 | 16);
        due.is("of three", x.cover(7), 4 | 16);
        due.is("not seen", x.cover(8), AtticStars.NONE);
        due.is("not all seen", x.cover(15), AtticStars.NONE);
        due.is("cover wrong", x.cover(256), BAD);
        due.is("cover wrong", x.cover(-1), BAD);
        due.is("nobody sees nothing", new AtticStars().cover(0), 0);
        due.is("nobody sees", new AtticStars().cover(128), AtticStars.NONE);
        AtticStars y = new AtticStars();
        for (int k = 7; k >= 0; k--) y.attic(0, 3 * k, 1);
        due.is("all eight", y.cover(255), 255);
        due.is("some", y.cover(1 | 4), 128 | 32);
    }
}

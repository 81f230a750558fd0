import java.util.function.Predicate;

/** The draws of the document, worked out in longs, and seeds with which they come out as a case needs them. */
final class Lot {
    private static final int SEEDS = 10_000_000;

    private Lot() {
    }

    /** z behind so many draws. */
    static int z(int seed, int draws) {
        long z = seed & 0xFFFFFFFFL;
        for (int i = 0; i < draws; i++) z = z * 1103515245L + 12345L & 0xFFFFFFFFL;
        return (int) z;
    }

    /** What draw k (from 0 on) gives. */
    static int draw(int seed, int k) {
        return (int) ((z(seed, k + 1) & 0xFFFFFFFFL) / 256);
    }

    static int seed(Predicate<Integer> wanted) {
        for (int seed = 0; seed < SEEDS; seed++) if (wanted.test(seed)) return seed;
        throw new IllegalStateException("no such seed");
    }

    static int seedWithRest(int k, int by, int rest) {
        return seed(s -> draw(s, k) % by == rest);
    }

    /** In which of so many hours with that SMOKE there is a draw for a bearing; -1, unless in just one. */
    static int onlyHourOfSmokeAt(int seed, int smoke, int hours, int bearing) {
        int only = -1;
        int drawn = 0;
        for (int hour = 0; hour < hours; hour++) {
            boolean smokes = draw(seed, drawn + 1) % 100 < smoke;
            if (smokes && draw(seed, drawn + 2) % 24 == bearing) {
                if (only >= 0) return -1;
                only = hour;
            }
            drawn += smokes ? 3 : 2;
        }
        return only;
    }
}

import com.sun.management.ThreadMXBean;
import java.lang.management.ManagementFactory;

/** All calls of a run live in one room: thinking ahead makes nothing, a text only what it keeps. */
public final class RoomTest {
    private static final ThreadMXBean THREADS = (ThreadMXBean) ManagementFactory.getThreadMXBean();
    private static final Due due = new Due();

    public static void main(String[] args) {
        AtticStars x = town();
        thoughts(x);
        texts(x);
        THREADS.getCurrentThreadAllocatedBytes();
        long before = THREADS.getCurrentThreadAllocatedBytes();
        for (int i = 0; i < 100; i++) thoughts(x);
        long thinking = THREADS.getCurrentThreadAllocatedBytes() - before;
        due.holds("thinking ahead made " + thinking + " bytes", thinking < 100);
        before = THREADS.getCurrentThreadAllocatedBytes();
        for (int i = 0; i < 100; i++) texts(x);
        long reading = THREADS.getCurrentThreadAllocatedBytes() - before;
        due.holds("a hundred texts made " + reading + " bytes", reading < 100 * 200);
        before = THREADS.getCurrentThreadAllocatedBytes();
        for (int i = 0; i < 100; i++) due.is("new", new AtticStars().count(0), 0);
        long making = THREADS.getCurrentThreadAllocatedBytes() - before;
        due.holds("a hundred objects made " + making + " bytes", making < 100 * 10000);
        due.end("RoomTest");
    }

    private static AtticStars town() {
        AtticStars x = new AtticStars();
        x.deal(8);
        x.rule(1, 20);
        x.sheet(0, 0, 24);
        Due.law(x, "want p*2+n-h/3&w|(p<7)");
        x.keep();
        return x;
    }

    private static void thoughts(AtticStars x) {
        x.turned(1, 60, 0);
        x.stands(60, 1);
        x.becomes(2, 60, 0);
        x.behind(100, 0);
        x.debt(0, 9999);
        x.rises(0, 0);
        x.like(0, 0);
        x.cover(255);
        x.tell(0);
        x.check(30);
        x.lay(0, 1, 3);
        x.lay(1, 2, 0);
        x.keep();
        x.back();
        x.hours(1);
    }

    /** fee t+o+1234: one text more, then gone with the image. */
    private static void texts(AtticStars x) {
        x.feed(0x66656520, 0x742B6F2B, 0x31323334);
        x.text();
        x.back();
    }
}

import com.sun.management.ThreadMXBean;
import java.lang.management.ManagementFactory;

/** All calls of a run live in one room, so an object is small and a call makes nothing but a saying that is kept. */
public final class RoomTest {
    // An object holds some 2,000 elements, an int each at most, and twelve sayings.
    private static final long MOST_BYTES = 16_000;

    private static void dearestCalls() {
        HedgeCourt x = new HedgeCourt();
        int calls = 0;
        for (int i = 0; i < 12; i++) {
            x.say(i % 6, 0, 9, 40 + i, 41 + i, 10 * i, 0);
            calls++;
        }
        for (int i = 0; i < 60; i++) {
            x.mow(i % 2, 0, 9, 79 * (i % 2 == 0 ? 1 : 0), i / 2);
            calls++;
        }
        for (int i = 0; i < 20; i++) {
            x.protest(i % 10, 100 + i);
            calls++;
        }
        // "newer map;hold 1;; " has a fault at its end, so the law stays: read as far as can be, kept as it is.
        while (calls + 10 <= 512) {
            x.feed(0x6e657765, 0x72206d61, 0x703b686f, 0x6c642031, 0x3b3b2020);
            x.rules();
            x.feed(0x6e657765, 0x72206d61, 0x703b686f, 0x6c642031, 0x3b202020);
            x.rules();
            x.paper(9);
            x.line(9);
            x.spells(9, 2);
            x.straight(9);
            x.said(11, 4);
            x.quarrel(79, 0, 99, 99, 999, 999, 99, 98);
            calls += 10;
        }
    }

    public static void main(String[] args) {
        Check.about("the room");
        ThreadMXBean threads = (ThreadMXBean) ManagementFactory.getThreadMXBean();
        long thread = Thread.currentThread().getId();
        // Once ahead of measuring, so that what the machine makes when a class is first used does not count.
        dearestCalls();
        long before = threads.getThreadAllocatedBytes(thread);
        dearestCalls();
        long made = threads.getThreadAllocatedBytes(thread) - before;
        if (made > MOST_BYTES) {
            Check.fail("an object and its calls made " + made + " bytes, " + MOST_BYTES + " are the most");
        }
        Check.finish("an object and its calls keep to their room");
    }
}

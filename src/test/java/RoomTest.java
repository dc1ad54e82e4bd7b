import java.lang.management.ManagementFactory;

/**
 * All calls of a run share one room: some 600,000 objects and 7.3 million fields and elements.
 * Bytes are counted here, at 8 for the widest element: a run of the dearest calls must stay far
 * below what the room has.
 */
public final class RoomTest {
    private static final long MOST_OF_RUN = 2_000_000L;
    private static final long MOST_OF_OBJECT = 60_000L;

    private static long allocated() {
        com.sun.management.ThreadMXBean bean =
                (com.sun.management.ThreadMXBean) ManagementFactory.getThreadMXBean();
        return bean.getThreadAllocatedBytes(Thread.currentThread().getId());
    }

    /** 512 calls, each of which works out something anew. */
    private static long dearRun() {
        FiniteMatrices x = new FiniteMatrices();
        long sum = x.size(3);
        long text = 0x20;
        for (int k = 0; k < 32; k++) {
            sum += x.unit(0, 1, 1) + x.unit(1, 2, 1) + x.unit(2, 0, 1);
            sum += x.image(7) + x.faithful(7) + x.listed() + x.orbit(1, 2, 3) + x.round(2);
            sum += x.drop() + x.drop() + x.drop() + x.orbit(1, 2, 3) + x.round(2) + x.sheet(0, 1, 40);
            sum += x.keeps(0, 0) + x.feed(text, 1);
        }
        return sum;
    }

    private static long smallRun() {
        FiniteMatrices x = Check.of(3, "0 1 0/1 0 0/0 0 1;0 1 0/0 0 1/1 0 0;-1 0 0/0 1 0/0 0 1;");
        long sum = x.sheet(0, 0, 9);
        for (int k = 0; k < 100; k++) {
            sum += x.orbit(1, 2, 3) + x.round(2) + x.character(0, 0) + x.factor(0, 3) + x.keeps(0, 0);
        }
        return sum;
    }

    public static void main(String[] args) {
        dearRun();
        smallRun();
        long before = allocated();
        new FiniteMatrices();
        long object = allocated() - before;
        dearRun();
        long dear = allocated() - before - object;
        smallRun();
        long small = allocated() - before - object - dear;
        System.out.println("bytes of an object " + object + ", of a dear run " + dear + ", of a run of orbits " + small);
        Check.holds("a new object is small", object <= MOST_OF_OBJECT);
        Check.holds("a dear run is small", dear <= MOST_OF_RUN);
        Check.holds("a run of orbits is small", small <= MOST_OF_RUN);
        Check.finish();
    }
}

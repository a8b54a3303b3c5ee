import java.lang.management.ManagementFactory;

/** What an object makes in its 512 dearest calls: all runs of calls share one room. */
public final class RoomTest {
    private static final Due due = new Due("RoomTest");
    private static final com.sun.management.ThreadMXBean THREADS =
            (com.sun.management.ThreadMXBean) ManagementFactory.getThreadMXBean();

    public static void main(String[] args) {
        dearest(new LambdaShelf());
        long before = bytes();
        LambdaShelf shelf = new LambdaShelf();
        long made = bytes() - before;
        dearest(shelf);
        long used = bytes() - before;
        System.out.println("RoomTest: " + made + " bytes made at first, " + used + " behind 512 calls");
        due.is("the constructor makes 8,000 elements at most", made <= 8_000 * 4 ? 1 : 0, 1);
        due.is("all calls make 50,000 elements at most", used <= 50_000 * 4 ? 1 : 0, 1);
        due.finish();
    }

    private static long bytes() {
        return THREADS.getThreadAllocatedBytes(Thread.currentThread().getId());
    }

    private static void dearest(LambdaShelf shelf) {
        // (\x.x x x)(\x.x x x)
        shelf.feed(0x285C782E, 0x78207820, 0x7829285C, 0x782E7820, 0x78207829);
        shelf.term();
        for (int i = 0; i < 31; i++) {
            shelf.copy(0);
        }
        for (int i = 0; i < 32; i++) {
            shelf.steps(i, 0, 200);
        }
        for (int i = 0; i < 74; i++) {
            shelf.typed(i % 32);
            shelf.read(i % 32, 200);
            shelf.letter(i % 32, 5000);
            shelf.drop();
            shelf.abstracted(i % 31);
            shelf.about(i % 32, 0);
        }
    }
}

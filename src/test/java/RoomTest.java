import java.lang.management.ManagementFactory;

/** No call makes objects that are kept or thrown away: the dearest ones are asked as often as a run may. */
public final class RoomTest {
    private static final long MOST_BYTES_OF_A_STORE = 300_000;
    private static final long MOST_BYTES_OF_CALLS = 20_000;

    private static long sum = 0;

    private static void dearCalls(RowStore x) {
        for (int i = 0; i < 40; i++) {
            for (int j = 0; j < 10; j++) {
                x.feed(0x01020304 * i, 0x05060708 + j, 0x10203040 + i * j, 0x50607001 * j, 0x11121314);
            }
            sum += x.batch(200) + x.calm(64) + x.due(8) + x.ahead(64, 4) + x.count(14) + x.count(15);
            sum += x.view(i % 3) + x.against(i % 3, 1) + x.between(i % 3, i % 3) + x.steps(1000) + x.route(7, NONE, 0);
            sum += i % 9 == 8 ? x.restore(i % 3) + x.pack() : x.stride(2 + i % 7) + x.budget(i);
        }
    }

    private static final int NONE = RowStore.NONE;

    private static long bytes() {
        return ((com.sun.management.ThreadMXBean) ManagementFactory.getThreadMXBean())
                .getThreadAllocatedBytes(Thread.currentThread().getId());
    }

    public static void main(String[] args) {
        dearCalls(new RowStore());
        bytes();
        long before = bytes();
        RowStore x = new RowStore();
        long made = bytes();
        dearCalls(x);
        long after = bytes();
        if (made - before > MOST_BYTES_OF_A_STORE || after - made > MOST_BYTES_OF_CALLS) {
            System.out.println("a store took " + (made - before) + " bytes, its calls " + (after - made));
            System.exit(1);
        }
    }
}

import java.lang.management.ManagementFactory;

/** The room of a run: an object and 512 of its calls take a small part of it, since calls make nothing. */
final class RoomTest {
    /** 7.3 million fields and elements of four bytes are 29 MB for all objects of a run. */
    private static final long BYTES_AT_MOST = 1_000_000;

    private RoomTest() { }

    static void run() {
        Check.part("room");
        com.sun.management.ThreadMXBean bean = (com.sun.management.ThreadMXBean) ManagementFactory.getThreadMXBean();
        long before = bean.getCurrentThreadAllocatedBytes();
        ConsonantIndex x = new ConsonantIndex();
        for (int i = 0; i < 24; i++) {
            x.put('a' + i);
            x.put('t');
            x.add();
        }
        for (int i = 0; i < 4; i++) x.ear(ConsonantIndex.NONE);
        for (int i = 0; i < 80; i++) {
            x.bestMerger(i % 4, 0);
            x.quarrel(0, 1);
            x.drawer(0, i, 1);
            x.save(i % 2);
            x.restore(i % 2);
        }
        Check.due("names", x.count(0), 24);
        long taken = bean.getCurrentThreadAllocatedBytes() - before;
        if (taken > BYTES_AT_MOST) System.out.println("bytes taken: " + taken);
        Check.due("a run stays small", taken <= BYTES_AT_MOST ? 1 : 0, 1);
    }
}

import java.lang.management.ManagementFactory;

/** All calls of a run live in one room, so the dearest runs are measured: what they make, and how long they take. */
public final class RoomTest {
    // The room has some 7.3 million fields and elements; at 4 bytes each this is a tenth of it.
    private static final long MOST_BYTES = 2920000;
    private static final long MOST_SECONDS = 120;

    public static void main(String[] args) {
        Check check = new Check();
        com.sun.management.ThreadMXBean bean =
                (com.sun.management.ThreadMXBean) ManagementFactory.getThreadMXBean();
        long start = System.nanoTime();
        run(check, 0);
        long before = bean.getCurrentThreadAllocatedBytes();
        run(check, 1);
        long made = bean.getCurrentThreadAllocatedBytes() - before;
        long seconds = (System.nanoTime() - start) / 1000000000L;
        System.out.println("bytes made by a run: " + made + ", seconds for two: " + seconds);
        check.due("little is made", true, () -> made < MOST_BYTES);
        check.due("a run ends", true, () -> seconds < MOST_SECONDS);
        check.finish("RoomTest");
    }

    /** A full store whose graphs entail nearly all, twenty dear queries, and a change ahead of every question. */
    private static void run(Check check, int change) {
        Triplegarth x = new Triplegarth();
        for (int name = 0; name < 8; name++) {
            x.add(0, name, 0, (name + 1) % 8);
            x.add(1, name, 1, 8 + name % 4);
            x.add(2, name, name, name);
        }
        for (int predicate = 0; predicate < 7; predicate++) {
            x.addRule('s', predicate, predicate + 1, 0);
        }
        x.addRule('t', 0, 0, 0);
        x.setEntailed(true);
        x.pattern(3, 20, 21, 22);
        x.pattern(3, 22, 20, 21);
        x.pattern(3, 20, 7, 22);
        x.path(3, 20, 0, 21, true);
        for (int query = 4; query < 20; query++) {
            x.both("oujm".charAt(query % 4), query - 1, query % 3);
        }
        for (int call = 0; call < 220; call++) {
            if (call % 2 == change) {
                x.add(0, 7, 7, 11);
            } else {
                x.remove(0, 7, 7, 11);
            }
            if (!x.isSound()) {
                check.due("isSound", true, () -> false);
            }
        }
    }
}

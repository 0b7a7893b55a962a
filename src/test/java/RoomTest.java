import java.lang.management.ManagementFactory;

/** All calls of a run live in one room: an object is small, and its calls make next to nothing new. */
public final class RoomTest {
    private static final long MOST_BYTES_MADE = 40_000;
    private static final long MOST_BYTES_OF_CALLS = 40_000;

    public static void main(String[] args) {
        for (int warm = 0; warm < 3; warm++) {
            use(new MaypoleGreen());
        }
        long before = allocated();
        MaypoleGreen g = new MaypoleGreen();
        long made = allocated() - before;
        before = allocated();
        use(g);
        long used = allocated() - before;
        Check.due("an object takes " + made + " bytes", made < MOST_BYTES_MADE);
        Check.due("its calls take " + used + " bytes", used < MOST_BYTES_OF_CALLS);
        Check.finish("RoomTest");
    }

    private static long allocated() {
        com.sun.management.ThreadMXBean threads =
            (com.sun.management.ThreadMXBean) ManagementFactory.getThreadMXBean();
        return threads.getThreadAllocatedBytes(Thread.currentThread().getId());
    }

    /** The dearest of each call; no texts are made here, so that only the object's own bytes are counted. */
    private static void use(MaypoleGreen g) {
        for (int i = 0; i < 15; i++) {
            g.person(i % 4, 1 + i, 1 + i % 9);
        }
        g.ring(7);
        for (int i = 0; i < 7; i++) {
            g.stand(i, i);
            g.ribbon(i, i, 99999);
        }
        for (int i = 0; i < 11; i++) {
            // (((0<2>w)5)5)4
            g.feed(0x28282830, 4);
            g.feed(0x3c323e77, 4);
            g.feed(0x29352935, 4);
            g.feed(0x2934, 2);
            g.figure();
        }
        for (int t = 0; t < 6; t++) {
            g.tape(t, 0, 60);
            for (int i = 0; i < 7; i++) {
                g.item(t, i, (i + 3) % 7);
            }
        }
        g.begin();
        for (int i = 0; i < 40; i++) {
            g.dance(i % 10);
            g.right(i % 10);
            g.slips(i % 10, -1);
            g.form(i % 10, -1);
            g.akin(i % 10, -1);
            g.beat();
            g.picture(i, i % 7, i % 7);
            g.wrong();
            g.colours(4, -1);
            g.fewest(i % 6, -1);
            g.set(127 << i % 8, -1);
            g.spent(127 << i % 8, i % 10);
            g.act(i % 15, 2, i);
            g.shift(0, 0, 1, 0, 60);
        }
        g.end();
    }
}

import java.lang.management.ManagementFactory;

/** Calls make nothing new, so that many of them find room; and the dearest ones end soon. */
public final class RoomTest {
    private static final long MOST_BYTES_AN_OBJECT = 40_000;
    private static final long MOST_BYTES_OF_CALLS = 40_000;

    public static void main(String[] args) {
        com.sun.management.ThreadMXBean bean = (com.sun.management.ThreadMXBean) ManagementFactory.getThreadMXBean();
        long id = Thread.currentThread().getId();
        dearest(full());
        long begun = bean.getThreadAllocatedBytes(id);
        RolledStones x = full();
        long made = bean.getThreadAllocatedBytes(id);
        for (int i = 0; i < 30; i++) {
            dearest(x);
        }
        long called = bean.getThreadAllocatedBytes(id);
        System.out.println("bytes of an object " + (made - begun) + ", of the calls on it " + (called - made));
        if (made - begun > MOST_BYTES_AN_OBJECT || called - made > MOST_BYTES_OF_CALLS) {
            System.out.println("too many");
            System.exit(1);
        }
    }

    private static RolledStones full() {
        RolledStones x = new RolledStones();
        for (int stone = 0; stone < 6; stone++) {
            x.stone(stone % 5, 50 + 13 * stone, 1);
        }
        for (int cell = 0; cell < 144; cell += 5) {
            x.fence(cell, 1 + cell % 2);
        }
        for (int n = 0; n < 20; n++) {
            x.night(n, n % 4, 99, 9, true);
        }
        for (int i = 0; i < 25; i++) {
            x.type(0x2020202020202020L, 8);
        }
        x.found(19, 0, 0);
        return x;
    }

    private static void dearest(RolledStones x) {
        x.hold(0, 19);
        x.steer(0, 143, 19);
        x.guess(0, 0);
        x.guessWay(0, 0);
        x.seeds(0, 99);
        x.spring(0, 8, 99, 1, 0);
        x.tracks(0, 19, -1);
        x.watch(9);
        x.fewest();
        x.claims(0);
        x.image(0);
        x.from(0);
        x.digest();
    }
}

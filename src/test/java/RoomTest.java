import java.lang.management.ManagementFactory;

/** Long runs of the dearest calls: what they make stays small, and chains of nodes are not walked again and again. */
public final class RoomTest {
    /** The room of a run is 7.3 million elements, of 8 octets at most. */
    private static final long MOST_OCTETS = 58_400_000L;

    public static void main(String[] args) {
        com.sun.management.ThreadMXBean threads =
                (com.sun.management.ThreadMXBean) ManagementFactory.getThreadMXBean();
        largest(new GridVault());
        long before = threads.getCurrentThreadAllocatedBytes();
        largest(new GridVault());
        long made = threads.getCurrentThreadAllocatedBytes() - before;
        Check.due("octets made by the largest run: " + made, made < MOST_OCTETS);
        before = threads.getCurrentThreadAllocatedBytes();
        for (int i = 0; i < 512; i++) {
            new GridVault();
        }
        made = threads.getCurrentThreadAllocatedBytes() - before;
        Check.due("octets made by 512 new objects: " + made, made < MOST_OCTETS);
        chainOfJoins();
        chainOfWindows();
        Check.end();
    }

    /** 2 begins, 80 versions of 4096 cells, and as many nodes of 2048 cells as 512 calls can make, all asked for. */
    private static void largest(GridVault x) {
        for (int begin = 0; begin < 2; begin++) {
            x.begin(3, 0, 15, 0, 15, 0, 15);
            for (int i = 1; i <= 40; i++) {
                x.fill(0, 0, 15, i);
                x.commit();
            }
            int half = x.sub(x.read(40), 0, 0, 7);
            int last = half;
            for (int i = 0; i < 84; i++) {
                last = x.window(i % 38 == 0 ? half : last, i % 3, 40, 0);
                x.all(last, 0);
            }
        }
    }

    private static void chainOfJoins() {
        GridVault x = new GridVault();
        x.put(0, 0, 0, 1);
        x.commit();
        int last = x.read(1);
        for (int i = 2; i <= 40; i++) {
            last = x.join(last, last, 0);
        }
        Check.due("39 joins of a node with itself", x.cell(last, 0, 0, 0), 1L << 39);
    }

    private static void chainOfWindows() {
        GridVault x = new GridVault();
        x.begin(2, 0, 15, 0, 15, 0, 0);
        x.put(7, 7, 0, 1);
        x.commit();
        int last = x.extend(x.extend(x.read(1), 0, 0, 39), 1, 0, 39);
        for (int i = 4; i <= 40; i++) {
            last = x.window(last, i % 2, 40, 3);
        }
        Check.due("37 windows over 40 by 40", x.cell(last, 39, 39, 0), 1);
        Check.due("all of them", x.all(last, 0), 1600);
    }
}

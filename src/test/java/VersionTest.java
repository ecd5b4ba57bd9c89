/** Promises 6, 8 and 9. */
public final class VersionTest {
    public static void main(String[] args) {
        committing();
        asking();
        octetsOfNumbers();
        octetsOfRuns();
        chunksAtTheEnds();
        differing();
        Check.end();
    }

    private static GridVault line(int high) {
        GridVault x = new GridVault();
        x.begin(1, 0, high, 0, 0, 0, 0);
        return x;
    }

    private static void committing() {
        GridVault x = line(0);
        for (int i = 1; i <= 40; i++) {
            x.put(0, 0, 0, i % 3);
            Check.due("commit " + i, x.commit(), i);
            Check.due("desk after commit " + i, x.count(2), i);
            Check.due("parent of " + i, x.version(i, 0), i - 1);
        }
        x.put(0, 0, 0, 99);
        Check.throwing("a 42nd version", Check.INDEX, x::commit);
        Check.due("versions", x.count(0), 41);
        Check.due("the desk is as it was", x.count(3), 1);
        x.open(7);
        Check.throwing("a 42nd version again", Check.INDEX, x::commit);
        x.begin(1, 0, 0, 0, 0, 0, 0);
        Check.due("commit after begin", x.commit(), 1);
    }

    private static void asking() {
        GridVault x = line(9);
        for (int what = 0; what < 4; what++) {
            Check.due("version(0, " + what + ")", x.version(0, what), what == 0 ? -1 : 0);
        }
        x.put(0, 0, 0, 1);
        x.put(9, 0, 0, 1);
        x.commit();
        x.commit();
        Check.due("nothing changed: chunks", x.version(2, 1), 0);
        Check.due("nothing changed: octets", x.version(2, 2), 0);
        Check.due("nothing changed: cells", x.version(2, 3), 2);
        x.open(1);
        x.erase(0, 0, 0);
        Check.due("a branch", x.commit(), 3);
        Check.due("its parent", x.version(3, 0), 1);
        Check.due("its chunks", x.version(3, 1), 1);
        Check.due("its octets: an empty chunk", x.version(3, 2), 8);
        Check.due("its cells", x.version(3, 3), 1);
        Check.throwing("version(4, 0)", Check.ARGUMENT, () -> x.version(4, 0));
        Check.throwing("version(-1, 0)", Check.ARGUMENT, () -> x.version(-1, 0));
        Check.throwing("version(0, 4)", Check.ARGUMENT, () -> x.version(0, 4));
        Check.throwing("version(0, -1)", Check.ARGUMENT, () -> x.version(0, -1));
    }

    private static void octetsOfNumbers() {
        long[] numbers = {0, 63, -64, 64, -65, 8191, -8192, 8192, 1L << 61, (1L << 62) - 1, 1L << 62, -(1L << 62),
            Long.MAX_VALUE, Long.MIN_VALUE};
        int[] octets = {1, 1, 1, 2, 2, 2, 2, 3, 9, 9, 10, 9, 10, 10};
        GridVault x = line(0);
        for (int i = 0; i < numbers.length; i++) {
            x.open(0);
            x.put(0, 0, 0, numbers[i]);
            Check.due("octets of " + numbers[i], x.version(x.commit(), 2), 8 + 1 + octets[i]);
        }
    }

    private static void octetsOfRuns() {
        GridVault x = line(15);
        x.put(0, 0, 0, 70);
        x.put(3, 0, 0, 70);
        Check.due("what is empty parts no run", x.version(x.commit(), 2), 8 + 3);
        x.put(1, 0, 0, 6);
        Check.due("what is not empty does", x.version(x.commit(), 2), 8 + 3 + 2 + 3);
        x.open(0);
        x.put(0, 0, 0, 0);
        x.put(1, 0, 0, 0);
        Check.due("a first run of 0", x.version(x.commit(), 2), 8 + 2);
        x.open(0);
        x.put(3, 0, 0, 8000);
        x.put(4, 0, 0, 8000);
        Check.due("each chunk begins at 0", x.version(x.commit(), 2), 8 + 3 + 8 + 3);
        x.open(0);
        x.put(0, 0, 0, Long.MAX_VALUE);
        x.put(1, 0, 0, Long.MIN_VALUE);
        Check.due("differences wrap", x.version(x.commit(), 2), 8 + 11 + 2);
        GridVault flat = new GridVault();
        flat.begin(2, 0, 3, 0, 3, 0, 0);
        flat.put(0, 1, 0, 1);
        flat.put(1, 0, 0, 500);
        flat.put(1, 1, 0, 500);
        flat.put(0, 0, 0, 1);
        Check.due("the last dimension goes fastest", flat.version(flat.commit(), 2), 8 + 2 + 3);
    }

    private static void chunksAtTheEnds() {
        GridVault x = new GridVault();
        x.begin(3, -5, 4, 3, 7, 0, 8);
        for (int d = 0; d < 3; d++) {
            int[] lows = {-5, 3, 0};
            x.open(0);
            x.fill(d, lows[d], lows[d] + 3, 1);
            int[] want = {2 * 3, 3 * 3, 3 * 2};
            Check.due("chunks of the first four of " + d, x.version(x.commit(), 1), want[d]);
            x.fill(d, lows[d] + 4, lows[d] + 4, 1);
            Check.due("chunks of the fifth of " + d, x.version(x.commit(), 1), want[d]);
        }
        x.open(0);
        x.fill(0, -5, 4, 3);
        int made = x.commit();
        Check.due("all chunks", x.version(made, 1), 3 * 2 * 3);
        Check.due("octets of all chunks", x.version(made, 2), 18 * (8 + 2));
        Check.due("cells of all chunks", x.version(made, 3), 10 * 5 * 9);
    }

    private static void differing() {
        GridVault x = line(9);
        x.put(0, 0, 0, 0);
        x.put(1, 0, 0, 1);
        x.put(2, 0, 0, 2);
        x.commit();
        x.open(0);
        x.put(1, 0, 0, 1);
        x.put(2, 0, 0, 3);
        x.put(9, 0, 0, 3);
        x.commit();
        Check.due("differ(1, 2)", x.differ(1, 2), 3);
        Check.due("differ(2, 1)", x.differ(2, 1), 3);
        Check.due("differ(0, 1)", x.differ(0, 1), 3);
        Check.due("differ(1, 1)", x.differ(1, 1), 0);
        x.put(5, 0, 0, 3);
        Check.due("the desk does not count", x.differ(2, 2), 0);
        Check.throwing("differ(0, 3)", Check.ARGUMENT, () -> x.differ(0, 3));
        Check.throwing("differ(3, 0)", Check.ARGUMENT, () -> x.differ(3, 0));
        Check.throwing("differ(-1, 0)", Check.ARGUMENT, () -> x.differ(-1, 0));
        Check.throwing("differ(0, -1)", Check.ARGUMENT, () -> x.differ(0, -1));
        x.erase(2, 0, 0);
        x.put(2, 0, 0, 0);
        x.erase(2, 0, 0);
        x.commit();
        x.open(0);
        Check.due("what was erased is as if never put", x.differ(0, 3), 3);
    }
}

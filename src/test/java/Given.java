/** Objects to begin a test with, and walks over places. Ends are the low and the high of each dimension, in a row. */
final class Given {
    static final int FAR = Integer.MAX_VALUE;
    static final int DEEP = Integer.MIN_VALUE;

    private Given() {
    }

    static int[] ends(int... ends) {
        return ends;
    }

    /** An array, all empty, without a node. */
    static GridVault array(int... ends) {
        GridVault x = new GridVault();
        begin(x, ends);
        return x;
    }

    static void begin(GridVault x, int... ends) {
        x.begin(ends.length / 2, end(ends, 0), end(ends, 1), end(ends, 2), end(ends, 3), end(ends, 4), end(ends, 5));
    }

    private static int end(int[] ends, int i) {
        return i < ends.length ? ends[i] : 0;
    }

    /** Node 0 has these cells, in order; null is an empty one. */
    static GridVault cells(int[] ends, Long... cells) {
        GridVault x = array(ends);
        more(x, ends, cells);
        return x;
    }

    static GridVault row(int low, Long... cells) {
        return cells(ends(low, low + cells.length - 1), cells);
    }

    /** One node more, of a new version with these cells; the number of the node. */
    static int more(GridVault x, int[] ends, Long... cells) {
        x.open(0);
        int[] at = firstPlace(ends);
        for (Long cell : cells) {
            if (cell != null) {
                x.put(at[0], at[1], at[2], cell);
            }
            nextPlace(at, ends);
        }
        return x.read(x.commit());
    }

    /** Node 0 has the number in every cell. */
    static GridVault full(long number, int... ends) {
        GridVault x = array(ends);
        x.fill(0, ends[0], ends[1], number);
        x.read(x.commit());
        return x;
    }

    /** Node 0 has from 1 to 3 dimensions, each 0..1, and 1 in every cell. */
    static GridVault ones(int dimensions) {
        int[] ends = {0, 1, 0, 1, 0, 1};
        return full(1, java.util.Arrays.copyOf(ends, 2 * dimensions));
    }

    /** -1..1 by 2..4, with three versions, a desk that differs from its version, and nodes of all depths up to 3. */
    static GridVault used() {
        GridVault x = array(-1, 1, 2, 4);
        x.fill(0, -1, 0, 5);
        x.put(1, 4, 0, 70);
        x.commit();
        x.erase(0, 3, 0);
        x.put(1, 2, 0, -8);
        x.commit();
        x.open(1);
        x.put(-1, 2, 0, Long.MAX_VALUE);
        x.erase(0, 2, 0);
        x.read(1);
        x.read(2);
        x.apply(0, 1, 3);
        x.gather(2, 1, 0);
        x.read(0);
        return x;
    }

    /** As used, but begun twice: it can't be begun again. */
    static GridVault begunTwice() {
        GridVault x = array(0, 0);
        begin(x, 3, 5, 6, 7);
        x.fill(1, 7, 7, 2);
        x.read(x.commit());
        x.put(3, 6, 0, 1);
        return x;
    }

    /** All 41 versions, and a desk that differs from the last one. */
    static GridVault fullOfVersions() {
        GridVault x = array(0, 1);
        for (int i = 1; i <= 40; i++) {
            x.put(i % 2, 0, 0, i);
            x.commit();
        }
        x.put(0, 0, 0, 99);
        return x;
    }

    /** So many nodes, each of which is as ones(2) or, if it is the second, a row of it. */
    static GridVault nodes(int many) {
        GridVault x = ones(2);
        x.slice(0, 0, 0);
        for (int i = 2; i < many; i++) {
            x.read(1);
        }
        return x;
    }

    static int[] firstPlace(int[] ends) {
        return new int[] {end(ends, 0), end(ends, 2), end(ends, 4)};
    }

    static int[] lastPlace(int[] ends) {
        return new int[] {end(ends, 1), end(ends, 3), end(ends, 5)};
    }

    /** The last dimension goes fastest. */
    static void nextPlace(int[] at, int[] ends) {
        for (int d = ends.length / 2 - 1; d >= 0; d--) {
            if (at[d] < ends[2 * d + 1]) {
                at[d]++;
                return;
            }
            at[d] = ends[2 * d];
        }
    }
}

/** Promises 1 and 2. */
public final class BeginTest {
    public static void main(String[] args) {
        newObject();
        allAnew();
        onlyTwice();
        wrongRanges();
        rangesThatDoNotCount();
        throwingChangesNothing();
        Check.end();
    }

    private static void newObject() {
        GridVault x = new GridVault();
        Check.due("versions of a new object", x.count(0), 1);
        Check.due("nodes of a new object", x.count(1), 0);
        Check.due("desk's version of a new object", x.count(2), 0);
        Check.due("desk's changes of a new object", x.count(3), 0);
        Check.due("read of a new object", x.read(0), 0);
        int[] want = {1, 1, 0, 0, 0, 0, 0, 0, 0};
        for (int what = 0; what < want.length; what++) {
            Check.due("shape " + what + " of a new object", x.shape(0, what), want[what]);
        }
        Check.throwing("put(1) on a new object", Check.INDEX, () -> x.put(1, 0, 0, 1));
        x.put(0, 77, -77, 1);
        Check.due("put(0) on a new object", x.count(3), 1);
    }

    private static void allAnew() {
        GridVault x = new GridVault();
        x.put(0, 0, 0, 4);
        x.commit();
        x.read(1);
        x.put(0, 0, 0, 5);
        x.begin(3, -100, -85, 85, 100, 7, 7);
        Check.due("versions after begin", x.count(0), 1);
        Check.due("nodes after begin", x.count(1), 0);
        Check.due("desk's version after begin", x.count(2), 0);
        Check.due("desk's changes after begin", x.count(3), 0);
        Check.throwing("version(1, 0) after begin", Check.ARGUMENT, () -> x.version(1, 0));
        Check.throwing("shape(0, 0) after begin", Check.ARGUMENT, () -> x.shape(0, 0));
        x.read(0);
        int[] want = {3, 1, -100, -85, 85, 100, 7, 7, 0};
        for (int what = 0; what < want.length; what++) {
            Check.due("shape " + what + " after begin", x.shape(0, what), want[what]);
        }
    }

    private static void onlyTwice() {
        GridVault x = new GridVault();
        x.begin(1, 0, 3, 0, 0, 0, 0);
        Check.throwing("begin(0)", Check.ARGUMENT, () -> x.begin(0, 0, 0, 0, 0, 0, 0));
        x.begin(1, 0, 4, 0, 0, 0, 0);
        x.put(4, 0, 0, 1);
        Check.throwing("third begin", Check.STATE, () -> x.begin(1, 0, 5, 0, 0, 0, 0));
        Check.throwing("third begin, wrong too", Check.STATE, () -> x.begin(0, 0, 5, 0, 0, 0, 0));
        Check.due("desk after the third begin", x.count(3), 1);
        Check.throwing("array after the third begin", Check.INDEX, () -> x.put(5, 0, 0, 1));
    }

    private static void wrongRanges() {
        int[][] wrong = {
            {0, 0, 0, 0, 0, 0, 0}, {4, 0, 0, 0, 0, 0, 0}, {-1, 0, 0, 0, 0, 0, 0},
            {1, 1, 0, 0, 0, 0, 0}, {1, 0, 16, 0, 0, 0, 0}, {1, -101, -100, 0, 0, 0, 0}, {1, 100, 101, 0, 0, 0, 0},
            {2, 0, 0, 1, 0, 0, 0}, {2, 0, 0, 0, 16, 0, 0}, {2, 0, 0, -101, -100, 0, 0}, {2, 0, 0, 100, 101, 0, 0},
            {3, 0, 0, 0, 0, 1, 0}, {3, 0, 0, 0, 0, 0, 16}, {3, 0, 0, 0, 0, -101, -100}, {3, 0, 0, 0, 0, 100, 101},
            {1, Integer.MIN_VALUE, Integer.MAX_VALUE, 0, 0, 0, 0}, {1, Integer.MAX_VALUE, Integer.MIN_VALUE, 0, 0, 0, 0},
            {1, 0, Integer.MAX_VALUE, 0, 0, 0, 0}, {1, Integer.MIN_VALUE, 0, 0, 0, 0, 0},
            {Integer.MAX_VALUE, 0, 0, 0, 0, 0, 0}, {Integer.MIN_VALUE, 0, 0, 0, 0, 0, 0},
        };
        GridVault x = new GridVault();
        for (int i = 0; i < wrong.length; i++) {
            int[] w = wrong[i];
            Check.throwing("wrong begin " + i, Check.ARGUMENT, () -> x.begin(w[0], w[1], w[2], w[3], w[4], w[5], w[6]));
        }
        x.begin(3, 85, 100, -100, -85, 0, 15);
        x.put(100, -100, 15, 1);
        Check.due("16 long is right", x.count(3), 1);
    }

    private static void rangesThatDoNotCount() {
        GridVault x = new GridVault();
        x.begin(1, 2, 3, 9, 5, 1000, -1000);
        x.read(0);
        int[] want = {1, 1, 2, 3, 0, 0, 0, 0, 0};
        for (int what = 0; what < want.length; what++) {
            Check.due("shape " + what + " of one dimension", x.shape(0, what), want[what]);
        }
        x.begin(2, 2, 3, 4, 5, 7, 6);
        x.read(0);
        Check.due("low of the third of two dimensions", x.shape(0, 6), 0);
        Check.due("high of the third of two dimensions", x.shape(0, 7), 0);
    }

    private static void throwingChangesNothing() {
        GridVault x = new GridVault();
        x.put(0, 0, 0, 4);
        x.commit();
        x.read(1);
        x.put(0, 0, 0, 5);
        Check.throwing("begin(4)", Check.ARGUMENT, () -> x.begin(4, 0, 0, 0, 0, 0, 0));
        Check.due("versions", x.count(0), 2);
        Check.due("nodes", x.count(1), 1);
        Check.due("desk's version", x.count(2), 1);
        Check.due("desk's changes", x.count(3), 1);
    }
}

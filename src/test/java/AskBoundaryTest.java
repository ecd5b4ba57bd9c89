/** Promises 22 to 24, and for how many calls an object is used: each boundary case by itself. */
public final class AskBoundaryTest {
    private static final int FAR = Given.FAR;
    private static final int DEEP = Given.DEEP;
    private static final int[] NONE = {DEEP, -1, 5, 149, 150, FAR};

    public static void main(String[] args) {
        Check.tests(AskBoundaryTest::shapeOfOtherNodes, AskBoundaryTest::shapeOfOthers,
                AskBoundaryTest::shapeOfNoDimension, AskBoundaryTest::shapeOfEmptyAndFull,
                AskBoundaryTest::cellOfOtherNodes, AskBoundaryTest::cellAtTheEnds, AskBoundaryTest::cellBeyondTheEnds,
                AskBoundaryTest::cellsThatAreEmpty, AskBoundaryTest::cellOnPlacesOfNoDimension,
                AskBoundaryTest::allOfOtherNodes, AskBoundaryTest::allOfOthers, AskBoundaryTest::allOfNone,
                AskBoundaryTest::allOfOneAndOfTheMost, AskBoundaryTest::allWraps, AskBoundaryTest::asOftenAsAsked,
                AskBoundaryTest::theLastOf512Calls, AskBoundaryTest::refusedCallsAmong512);
        Check.end();
    }

    private static GridVault box() {
        return Given.cells(Given.ends(-1, 0, 3, 4, 7, 8), 1L, 2L, 3L, 4L, 5L, null, 7L, 8L);
    }

    private static void shapeOfOtherNodes() {
        Check.sentence("promise 22: IllegalArgumentException: node");
        for (int node : NONE) {
            Check.refused("shape(" + node + ", 0)", Check.ARGUMENT, Given::used, x -> x.shape(node, 0));
            Check.refused("shape(" + node + ", 8)", Check.ARGUMENT, Given::used, x -> x.shape(node, 8));
        }
        Check.due("the first node", Given.used().shape(0, 8), 7);
        Check.due("the last node", Given.used().shape(4, 8), 0);
        Check.due("the 150th node", Given.nodes(150).shape(149, 8), 4);
        Check.throwing("a new object's", Check.ARGUMENT, () -> new GridVault().shape(0, 0));
    }

    private static void shapeOfOthers() {
        Check.sentence("promise 22: IllegalArgumentException: what");
        int[] others = {DEEP, -2, -1, 9, 10, FAR};
        for (int what : others) {
            Check.refused("shape(0, " + what + ")", Check.ARGUMENT, Given::used, x -> x.shape(0, what));
            Check.refused("shape(5, " + what + ")", Check.ARGUMENT, Given::used, x -> x.shape(5, what));
        }
        int[] want = {3, 1, -1, 0, 3, 4, 7, 8, 7};
        GridVault x = box();
        for (int what = 0; what < 9; what++) {
            Check.due("shape(0, " + what + ")", x.shape(0, what), want[what]);
        }
    }

    private static void shapeOfNoDimension() {
        Check.sentence("promise 22: low and high of a DIMENSION are 0 if there is none");
        GridVault x = box();
        int two = x.slice(0, 0, 0);
        int one = x.gather(two, 0, 0);
        int[] ofTwo = {2, 2, 3, 4, 7, 8, 0, 0, 3};
        int[] ofOne = {1, 3, 7, 8, 0, 0, 0, 0, 2};
        for (int what = 0; what < 9; what++) {
            Check.due("two dimensions, " + what, x.shape(two, what), ofTwo[what]);
            Check.due("one dimension, " + what, x.shape(one, what), ofOne[what]);
        }
        GridVault line = new GridVault();
        line.begin(1, 5, 6, 7, 8, 9, 10);
        line.read(0);
        for (int what = 4; what < 8; what++) {
            Check.due("an array of one dimension, " + what, line.shape(0, what), 0);
        }
    }

    private static void shapeOfEmptyAndFull() {
        Check.sentence("promise 22: CELLS that are not empty: none, one with 0, and all");
        GridVault x = Given.full(0, 0, 15, 0, 15, 0, 15);
        Check.due("all of 4096", x.shape(0, 8), 4096);
        Check.due("all of 2048", x.shape(x.sub(0, 0, 0, 7), 8), 2048);
        Check.due("none of 4096", x.shape(x.read(0), 8), 0);
        Check.due("none of 2048", x.shape(x.filter(1, 1, 0), 8), 0);
        Check.due("one with 0", Given.row(0, null, 0L, null).shape(0, 8), 1);
        GridVault y = Given.row(0, 3L, null);
        y.apply(0, 0, 1);
        y.cell(1, 0, 0, 0);
        Check.due("asked for a cell before", y.shape(1, 8), 1);
        Check.due("asked twice", y.shape(1, 8), 1);
    }

    private static void cellOfOtherNodes() {
        Check.sentence("promise 23: IllegalArgumentException: node");
        for (int node : NONE) {
            Check.refused("cell of " + node, Check.ARGUMENT, Given::used, x -> x.cell(node, -1, 2, 0));
            Check.refused("cell of " + node + ", beyond", Check.ARGUMENT, Given::used, x -> x.cell(node, 99, 99, 99));
        }
        Check.due("of the 150th node", Given.nodes(150).cell(149, 1, 1, 0), 1);
    }

    private static void cellAtTheEnds() {
        Check.sentence("promise 23: a CELL at the first or the last place of each DIMENSION");
        GridVault x = box();
        Check.node("a version", x, 0, Given.ends(-1, 0, 3, 4, 7, 8), 1L, 2L, 3L, 4L, 5L, null, 7L, 8L);
        Check.node("a node of it", x, x.apply(0, 0, 10), Given.ends(-1, 0, 3, 4, 7, 8), 11L, 12L, 13L, 14L, 15L, null,
                17L, 18L);
    }

    private static void cellBeyondTheEnds() {
        Check.sentence("promise 23: IndexOutOfBoundsException: there is none");
        int[][] beyond = {{-2, 3, 7}, {1, 3, 7}, {-1, 2, 7}, {-1, 5, 7}, {-1, 3, 6}, {-1, 3, 9}, {-2, 4, 8}, {1, 4, 8},
            {0, 2, 8}, {0, 5, 8}, {0, 4, 6}, {0, 4, 9}, {DEEP, 3, 7}, {FAR, 3, 7}, {-1, DEEP, 7}, {-1, FAR, 7},
            {-1, 3, DEEP}, {-1, 3, FAR}};
        for (int[] b : beyond) {
            Check.refused("cell " + b[0] + " " + b[1] + " " + b[2], Check.INDEX, AskBoundaryTest::box,
                    x -> x.cell(0, b[0], b[1], b[2]));
        }
        GridVault x = box();
        int two = x.slice(0, 0, 0);
        int one = x.slice(two, 0, 3);
        int[][] ofTwo = {{2, 7}, {5, 7}, {3, 6}, {3, 9}};
        for (int[] b : ofTwo) {
            Check.throwing("cell of two dimensions", Check.INDEX, () -> x.cell(two, b[0], b[1], 7));
        }
        Check.throwing("before one dimension", Check.INDEX, () -> x.cell(one, 6, 3, 7));
        Check.throwing("behind one dimension", Check.INDEX, () -> x.cell(one, 9, 3, 7));
        int none = x.filter(0, 3, 100);
        Check.throwing("beyond, and all are empty", Check.INDEX, () -> x.cell(none, 1, 3, 7));
    }

    private static void cellsThatAreEmpty() {
        Check.sentence("promise 23: UnsupportedOperationException: it is empty");
        Check.refused("an empty cell", Check.UNSUPPORTED, AskBoundaryTest::box, x -> x.cell(0, 0, 3, 8));
        Check.refused("an empty cell of version 0", Check.UNSUPPORTED, Given::used, x -> x.cell(4, -1, 2, 0));
        GridVault x = Given.row(0, 0L, null);
        Check.due("0 is not empty", x.cell(0, 0, 0, 0), 0);
        x.apply(0, 0, 0);
        for (int i = 0; i < 3; i++) {
            Check.due("0 + 0 is not empty, time " + i, x.cell(1, 0, 0, 0), 0);
            Check.throwing("it is empty, time " + i, Check.UNSUPPORTED, () -> x.cell(1, 1, 0, 0));
        }
    }

    private static void cellOnPlacesOfNoDimension() {
        Check.sentence("promises 3 and 23: places of DIMENSIONS that there are not: not looked at");
        GridVault x = box();
        int two = x.slice(0, 0, 0);
        int one = x.slice(two, 0, 4);
        int[] any = {DEEP, -1, 0, 1, 3, FAR};
        for (int p : any) {
            Check.due("two dimensions", x.cell(two, 4, 7, p), 7);
            for (int q : any) {
                Check.due("one dimension", x.cell(one, 8, p, q), 8);
            }
        }
    }

    private static void allOfOtherNodes() {
        Check.sentence("promise 24: IllegalArgumentException: node");
        for (int node : NONE) {
            for (int what = 0; what < 4; what++) {
                int w = what;
                Check.refused("all(" + node + ", " + w + ")", Check.ARGUMENT, Given::used, x -> x.all(node, w));
            }
        }
        Check.due("of the 150th node", Given.nodes(150).all(149, 0), 4);
        Check.throwing("a new object's", Check.ARGUMENT, () -> new GridVault().all(0, 0));
    }

    private static void allOfOthers() {
        Check.sentence("promise 24: IllegalArgumentException: what (0..3)");
        int[] others = {DEEP, -1, 4, 5, FAR};
        for (int what : others) {
            Check.refused("all(0, " + what + ")", Check.ARGUMENT, Given::used, x -> x.all(0, what));
            Check.refused("all(5, " + what + ")", Check.ARGUMENT, Given::used, x -> x.all(5, what));
        }
        long[] want = {30, 7, 1, 8};
        GridVault x = box();
        for (int what = 0; what < 4; what++) {
            Check.due("all(0, " + what + ")", x.all(0, what), want[what]);
        }
    }

    private static void allOfNone() {
        Check.sentence("promise 24: UnsupportedOperationException: none");
        for (int what = 0; what < 4; what++) {
            int w = what;
            Check.refused("all of version 0, " + w, Check.UNSUPPORTED, Given::used, x -> x.all(4, w));
            GridVault x = box();
            int none = x.filter(0, 2, 1);
            Check.throwing("all of what a filter left, " + w, Check.UNSUPPORTED, () -> x.all(none, w));
        }
    }

    private static void allOfOneAndOfTheMost() {
        Check.sentence("promise 24: all CELLS of a NODE: one, which may have 0, and 4096");
        GridVault x = Given.row(0, null, 0L, null);
        long[] want = {0, 1, 0, 0};
        GridVault y = Given.full(-2, 0, 15, 0, 15, 0, 15);
        long[] most = {-8192, 4096, -2, -2};
        GridVault z = Given.row(0, Long.MIN_VALUE, Long.MAX_VALUE);
        long[] ends = {-1, 2, Long.MIN_VALUE, Long.MAX_VALUE};
        for (int what = 0; what < 4; what++) {
            Check.due("one cell, " + what, x.all(0, what), want[what]);
            Check.due("4096 cells, " + what, y.all(0, what), most[what]);
            Check.due("the least and the greatest number, " + what, z.all(0, what), ends[what]);
        }
        GridVault w = Given.array(0, 15, 0, 15, 0, 15);
        w.put(0, 0, 0, 5);
        w.put(15, 15, 15, 6);
        Check.due("the first and the last cell", w.all(w.read(w.commit()), 0), 11);
    }

    private static void allWraps() {
        Check.sentence("Terms: + wraps: all");
        Check.due("the greatest and 1", Given.row(0, Long.MAX_VALUE, 1L).all(0, 0), Long.MIN_VALUE);
        Check.due("the least and -1", Given.row(0, Long.MIN_VALUE, -1L).all(0, 0), Long.MAX_VALUE);
        Check.due("4096 times 2 to 52", Given.full(1L << 52, 0, 15, 0, 15, 0, 15).all(0, 0), 0);
    }

    private static void asOftenAsAsked() {
        Check.sentence("promises 22 to 24: to ask changes nothing, in whatever order");
        GridVault x = Given.used();
        GridVault twin = Given.used();
        for (int node = 4; node >= 0; node--) {
            x.shape(node, 8);
        }
        x.all(2, 0);
        x.all(3, 3);
        x.cell(2, -1, 4, 0);
        x.count(3);
        x.version(2, 2);
        x.differ(0, 1);
        Check.same("asked before", x, twin);
    }

    /** 1 begin, 80 calls for all versions, 150 for all nodes, and then as many as are left. */
    private static void theLastOf512Calls() {
        Check.sentence("What it is: an object is used for at most 512 calls: the 512th answers too");
        GridVault x = Given.array(0, 1);
        int calls = 1;
        for (int i = 1; i <= 40; i++) {
            x.put(1, 0, 0, i);
            Check.due("commit", x.commit(), i);
            calls += 2;
        }
        Check.due("read", x.read(40), 0);
        calls++;
        for (int i = 1; i < 150; i++) {
            Check.due("node", i % 39 == 0 ? x.read(i % 40) : x.apply(i - 1, 0, 1), i);
            calls++;
        }
        for (; calls < 511; calls++) {
            Check.due("asked", x.cell(38, 1, 0, 0), 78);
        }
        Check.due("the 512th call", x.all(149, 0), 149 - 117 + 117 % 40);
        GridVault y = new GridVault();
        for (int i = 1; i <= 510; i++) {
            y.put(0, 0, 0, i);
        }
        Check.due("the 511th call", y.commit(), 1);
        Check.due("the 512th call", y.version(1, 2), 8 + 1 + 2);
        GridVault z = new GridVault();
        for (int i = 1; i <= 511; i++) {
            z.count(0);
        }
        z.begin(3, 0, 15, 0, 15, 0, 15);
    }

    private static void refusedCallsAmong512() {
        Check.sentence("What it is: an object is used for at most 512 calls, refused ones among them");
        GridVault x = new GridVault();
        for (int i = 0; i < 102; i++) {
            Check.throwing("begin", Check.ARGUMENT, () -> x.begin(0, 0, 0, 0, 0, 0, 0));
            Check.throwing("put", Check.INDEX, () -> x.put(1, 0, 0, 1));
            Check.throwing("open", Check.ARGUMENT, () -> x.open(1));
            Check.throwing("read", Check.ARGUMENT, () -> x.read(1));
            Check.throwing("cell", Check.ARGUMENT, () -> x.cell(0, 0, 0, 0));
        }
        Check.due("the 511th call", x.read(0), 0);
        Check.due("the 512th call", x.shape(0, 8), 0);
    }
}

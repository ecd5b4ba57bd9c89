/** What promises 10 to 21 share, and what Terms say of NODES, SHAPES and DEPTH: each boundary case by itself. */
public final class NodeBoundaryTest {
    private static final int FAR = Given.FAR;
    private static final int DEEP = Given.DEEP;

    public static void main(String[] args) {
        Check.tests(NodeBoundaryTest::numbersOfNodes, NodeBoundaryTest::readOfOthers,
                NodeBoundaryTest::sourcesThatAreNotThere, NodeBoundaryTest::dimensionsThatAreNotThere,
                NodeBoundaryTest::theLastNode, NodeBoundaryTest::roomIsLookedAtFirst, NodeBoundaryTest::depths,
                NodeBoundaryTest::theDeepest, NodeBoundaryTest::longestInEachDimension,
                NodeBoundaryTest::longestOfTwo, NodeBoundaryTest::mostCells, NodeBoundaryTest::mostCellsOfAVersion,
                NodeBoundaryTest::partsOfALargeVersion, NodeBoundaryTest::limitsAreLookedAtLast);
        Check.end();
    }

    interface Make {
        int of(GridVault x, int a, int d);
    }

    /** Makes a node of a node a whose dimensions are 0..1, along d; wrong: with an argument that is not as said. */
    record Operator(String name, int fewestDimensions, boolean hasDimension, Make right, Make wrong) {
    }

    /** Node 0 has two dimensions and node 1 has one, where another source is needed. */
    private static final Operator[] OPERATORS = {
        new Operator("sub", 1, true, (x, a, d) -> x.sub(a, d, 0, 1), (x, a, d) -> x.sub(a, d, 1, 0)),
        new Operator("slice", 2, true, (x, a, d) -> x.slice(a, d, 1), (x, a, d) -> x.slice(a, d, 2)),
        new Operator("extend", 1, true, (x, a, d) -> x.extend(a, d, 0, 1), (x, a, d) -> x.extend(a, d, 1, 1)),
        new Operator("apply", 1, false, (x, a, d) -> x.apply(a, 5, 1), (x, a, d) -> x.apply(a, 6, 1)),
        new Operator("filter", 1, false, (x, a, d) -> x.filter(a, 3, 1), (x, a, d) -> x.filter(a, 4, 1)),
        new Operator("join, twice", 1, false, (x, a, d) -> x.join(a, a, 5), (x, a, d) -> x.join(a, a, 6)),
        new Operator("join, first", 2, false, (x, a, d) -> x.join(a, 0, 0), (x, a, d) -> x.join(a, 1, 0)),
        new Operator("join, second", 2, false, (x, a, d) -> x.join(0, a, 0), (x, a, d) -> x.join(1, a, 0)),
        new Operator("gather", 2, true, (x, a, d) -> x.gather(a, d, 3), (x, a, d) -> x.gather(a, d, 4)),
        new Operator("regrid", 1, true, (x, a, d) -> x.regrid(a, d, 1, 3), (x, a, d) -> x.regrid(a, d, 41, 3)),
        new Operator("regrid what", 1, true, (x, a, d) -> x.regrid(a, d, 1, 0), (x, a, d) -> x.regrid(a, d, 1, 4)),
        new Operator("window", 1, true, (x, a, d) -> x.window(a, d, 0, 3), (x, a, d) -> x.window(a, d, 41, 3)),
        new Operator("window what", 1, true, (x, a, d) -> x.window(a, d, 0, 0), (x, a, d) -> x.window(a, d, 0, 4)),
        new Operator("swap", 1, true, (x, a, d) -> x.swap(a, d, 0), (x, a, d) -> x.swap(a, d, 3)),
        new Operator("swap, second", 1, true, (x, a, d) -> x.swap(a, 0, d), (x, a, d) -> x.swap(a, 3, d)),
        new Operator("product, twice", 2, false, (x, a, d) -> x.product(a, a), (x, a, d) -> x.product(1, 1)),
        new Operator("product, first", 2, false, (x, a, d) -> x.product(a, 0), (x, a, d) -> x.product(a, 1)),
        new Operator("product, second", 2, false, (x, a, d) -> x.product(0, a), (x, a, d) -> x.product(1, a)),
    };

    /** They have as many cells as node a, whose dimension d is 0..15. */
    private static final Make[] OF_ALL_CELLS = {
        (x, a, d) -> x.sub(a, d, 0, 15), (x, a, d) -> x.extend(a, d, 0, 15), (x, a, d) -> x.apply(a, 0, 0),
        (x, a, d) -> x.filter(a, 0, 0), (x, a, d) -> x.join(a, a, 0), (x, a, d) -> x.regrid(a, d, 1, 0),
        (x, a, d) -> x.window(a, d, 0, 0), (x, a, d) -> x.swap(a, d, 1),
    };

    /** Node 0 has two dimensions, node 1 one, and the last one is as deep as said. */
    private static GridVault deep(int depth) {
        GridVault x = Given.nodes(2);
        int last = 0;
        for (int i = 2; i <= depth; i++) {
            last = x.apply(last, 0, 1);
        }
        return x;
    }

    private static int last(GridVault x) {
        return x.count(1) - 1;
    }

    private static void numbersOfNodes() {
        Check.sentence("Terms: NODES are numbered as they are made; a refused call takes no number");
        GridVault x = Given.nodes(2);
        int next = 2;
        for (Operator op : OPERATORS) {
            Check.due(op.name(), op.right().of(x, 0, 0), next);
            Check.throwing("wrong " + op.name(), Check.ARGUMENT, () -> op.wrong().of(x, 0, 0));
            Check.throwing("read(2)", Check.ARGUMENT, () -> x.read(2));
            Check.due("nodes", x.count(1), next + 1);
            next++;
        }
        Check.due("read", x.read(0), next);
        for (Operator op : OPERATORS) {
            Check.refused("wrong " + op.name(), Check.ARGUMENT, () -> Given.nodes(2), y -> op.wrong().of(y, 0, 0));
        }
    }

    private static void readOfOthers() {
        Check.sentence("promise 10: IllegalArgumentException: what it is made of is not there");
        int[] none = {DEEP, -1, 3, FAR};
        for (int version : none) {
            Check.refused("read(" + version + ")", Check.ARGUMENT, Given::used, x -> x.read(version));
        }
        GridVault x = Given.used();
        Check.due("read(0)", x.shape(x.read(0), 8), 0);
        Check.due("read(2)", x.shape(x.read(2), 8), 7);
        GridVault full = Given.fullOfVersions();
        Check.node("read(40)", full, full.read(40), Given.ends(0, 1), 40L, 39L);
        Check.throwing("read(41)", Check.ARGUMENT, () -> full.read(41));
        Check.throwing("read(1) of a new one", Check.ARGUMENT, () -> new GridVault().read(1));
    }

    private static void sourcesThatAreNotThere() {
        for (Operator op : OPERATORS) {
            Check.sentence("promises 11 to 21: IllegalArgumentException: what it is made of is not there: "
                    + op.name());
            int[] none = {DEEP, -1, 3, 149, 150, FAR};
            for (int a : none) {
                Check.refused("of node " + a, Check.ARGUMENT, () -> Given.nodes(3), x -> op.right().of(x, a, 0));
            }
            GridVault x = Given.nodes(3);
            Check.due("of the last node", op.right().of(x, 2, 0), 3);
            Check.due("of the first node", op.right().of(x, 0, 0), 4);
            Check.throwing("of none", Check.ARGUMENT, () -> op.right().of(new GridVault(), 0, 0));
        }
    }

    private static void dimensionsThatAreNotThere() {
        for (Operator op : OPERATORS) {
            if (!op.hasDimension()) {
                continue;
            }
            Check.sentence("Terms: of a DIMENSION d 0 is the first one; IllegalArgumentException for others: "
                    + op.name());
            for (int n = op.fewestDimensions(); n <= 3; n++) {
                int dimensions = n;
                int[] none = {DEEP, -1, n, 3, FAR};
                for (int d : none) {
                    Check.refused("d is " + d + " of " + n, Check.ARGUMENT, () -> Given.ones(dimensions),
                            x -> op.right().of(x, 0, d));
                }
                GridVault x = Given.ones(n);
                for (int d = 0; d < n; d++) {
                    Check.due("d is " + d + " of " + n, op.right().of(x, 0, d), 1 + d);
                }
            }
        }
    }

    private static void theLastNode() {
        Check.sentence("promise 10: IndexOutOfBoundsException: there are 150");
        GridVault x = Given.nodes(149);
        Check.due("the 150th", x.read(1), 149);
        Check.throwing("the 151st", Check.INDEX, () -> x.read(1));
        Check.refused("the 151st", Check.INDEX, () -> Given.nodes(150), y -> y.read(1));
        for (Operator op : OPERATORS) {
            Check.sentence("promises 11 to 21: IndexOutOfBoundsException: there are 150: " + op.name());
            GridVault y = Given.nodes(149);
            Check.due("the 150th", op.right().of(y, 0, 0), 149);
            Check.throwing("the 151st", Check.INDEX, () -> op.right().of(y, 0, 0));
            Check.refused("the 151st", Check.INDEX, () -> Given.nodes(150), z -> op.right().of(z, 0, 0));
            Check.due("the 150th can be asked", y.shape(149, 1), 2);
        }
    }

    private static void roomIsLookedAtFirst() {
        Check.sentence("promise 10: that there are 150 is looked at first");
        GridVault full = Given.nodes(150);
        Check.throwing("read(-1)", Check.INDEX, () -> full.read(-1));
        Check.throwing("read(2)", Check.INDEX, () -> full.read(2));
        GridVault deepAndFull = deep(40);
        while (deepAndFull.count(1) < 150) {
            deepAndFull.read(1);
        }
        for (Operator op : OPERATORS) {
            Check.sentence("promises 11 to 21: that there are 150 is looked at first: " + op.name());
            Check.throwing("of node -1", Check.INDEX, () -> op.right().of(full, -1, 0));
            Check.throwing("of node 150", Check.INDEX, () -> op.right().of(full, 150, 0));
            Check.throwing("along -1", Check.INDEX, () -> op.right().of(full, 0, -1));
            Check.throwing("wrong", Check.INDEX, () -> op.wrong().of(full, 0, 0));
            Check.throwing("of one dimension", Check.INDEX, () -> op.right().of(full, 1, 0));
            Check.throwing("too deep", Check.INDEX, () -> op.right().of(deepAndFull, 40, 0));
        }
        GridVault large = Given.full(1, 0, 15, 0, 15, 0, 15);
        while (large.count(1) < 150) {
            large.read(1);
        }
        Check.sentence("promises 11 to 21: that there are 150 is looked at first, though the SHAPE would be beyond");
        Check.throwing("too large", Check.INDEX, () -> large.apply(0, 0, 0));
        Check.throwing("too long", Check.INDEX, () -> large.extend(0, 0, 0, 40));
    }

    private static void depths() {
        Check.sentence("Terms: a DEPTH of 1: of none");
        GridVault x = Given.nodes(2);
        Check.due("read", x.shape(0, 1), 1);
        Check.due("read of version 0", x.shape(x.read(0), 1), 1);
        for (Operator op : OPERATORS) {
            Check.sentence("Terms: a DEPTH one more than the greater of those that it is made of: " + op.name());
            GridVault y = deep(3);
            Check.due("of a depth of 1", y.shape(op.right().of(y, 0, 0), 1), 2);
            Check.due("of a depth of 2", y.shape(op.right().of(y, 2, 0), 1), 3);
            Check.due("of a depth of 3", y.shape(op.right().of(y, 3, 0), 1), 4);
        }
    }

    private static void theDeepest() {
        for (Operator op : OPERATORS) {
            Check.sentence("Terms: a DEPTH up to 40, beyond it UnsupportedOperationException: " + op.name());
            GridVault x = deep(39);
            int made = op.right().of(x, last(x), 0);
            Check.due("of a depth of 39", x.shape(made, 1), 40);
            Check.due("it can be asked", x.shape(made, 8) > 0);
            Check.refused("of a depth of 40", Check.UNSUPPORTED, () -> deep(40), y -> op.right().of(y, last(y), 0));
            Check.due("of another", x.shape(op.right().of(x, 0, 0), 1), 2);
        }
    }

    /** Just one place in each dimension. */
    private static GridVault point(int dimensions) {
        return Given.full(1, java.util.Arrays.copyOf(new int[] {0, 0, 0, 0, 0, 0}, 2 * dimensions));
    }

    private static void longestInEachDimension() {
        for (int n = 1; n <= 3; n++) {
            for (int dimension = 0; dimension < n; dimension++) {
                int d = dimension;
                int dimensions = n;
                Check.sentence("Terms: a SHAPE has up to 40 places in DIMENSION " + d + " of " + n);
                GridVault x = point(n);
                int made = x.extend(0, d, -39, 0);
                Check.due("40 places before", x.shape(made, 2 + 2 * d), -39);
                made = x.extend(0, d, 0, 39);
                Check.due("40 places behind", x.shape(made, 3 + 2 * d), 39);
                made = x.extend(0, d, -20, 19);
                Check.due("40 places round it: low", x.shape(made, 2 + 2 * d), -20);
                Check.due("40 places round it: high", x.shape(made, 3 + 2 * d), 19);
                int[][] beyond = {{-40, 0}, {0, 40}, {-20, 20}, {-1000, 1000}};
                for (int[] b : beyond) {
                    Check.refused("from " + b[0] + " to " + b[1], Check.UNSUPPORTED, () -> point(dimensions),
                            y -> y.extend(0, d, b[0], b[1]));
                }
                Check.throwing("one more than 40", Check.UNSUPPORTED, () -> x.extend(1, d, -40, 0));
                Check.due("no more than 40", x.shape(x.extend(1, d, -39, 0), 8), 1);
            }
        }
    }

    private static void longestOfTwo() {
        Check.sentence("Terms: a SHAPE of up to 40 places in two DIMENSIONS: 1600 CELLS");
        GridVault x = point(2);
        int tall = x.extend(0, 0, 0, 39);
        int wide = x.extend(0, 1, 0, 39);
        int product = x.product(tall, wide);
        Check.due("product of 40 by 40: low", x.shape(product, 2), 0);
        Check.due("product of 40 by 40: high", x.shape(product, 3), 39);
        Check.due("product of 40 by 40: second high", x.shape(product, 5), 39);
        Check.due("its only number", x.all(product, 1), 1);
        Check.due("extend to 40 by 40", x.shape(x.extend(tall, 1, 0, 39), 8), 1);
        Check.throwing("extend to 40 by 41", Check.UNSUPPORTED, () -> x.extend(tall, 1, 0, 40));
        Check.due("its last cell", x.cell(x.window(product, 0, 40, 0), 39, 0, 0), 1);
    }

    private static void mostCells() {
        Check.sentence("Terms: a SHAPE has up to 2048 CELLS");
        GridVault x = Given.array(0, 15, 0, 15, 0, 6);
        int a = x.read(0);
        Check.due("2048 cells", x.shape(x.extend(a, 2, 0, 7), 7), 7);
        Check.throwing("2304 cells", Check.UNSUPPORTED, () -> x.extend(a, 2, 0, 8));
        Check.refused("2304 cells", Check.UNSUPPORTED, () -> Given.full(1, 0, 15, 0, 15, 0, 6),
                y -> y.extend(0, 2, -1, 7));
        GridVault z = Given.array(0, 8, 0, 11, 0, 15);
        int b = z.read(0);
        Check.due("1944 cells", z.shape(z.extend(b, 2, -2, 15), 6), -2);
        Check.throwing("2052 cells", Check.UNSUPPORTED, () -> z.extend(b, 2, -3, 15));
        GridVault w = Given.array(0, 0, 0, 7, 0, 15);
        int c = w.read(0);
        int most = w.extend(w.extend(c, 0, 0, 7), 2, -16, 15);
        Check.due("8 by 8 by 32", w.shape(most, 6), -16);
        Check.throwing("8 by 8 by 33", Check.UNSUPPORTED, () -> w.extend(most, 2, -16, 16));
        Check.throwing("9 by 8 by 32", Check.UNSUPPORTED, () -> w.extend(most, 0, -1, 7));
        Check.throwing("8 by 9 by 32", Check.UNSUPPORTED, () -> w.extend(most, 1, 0, 8));
        Check.due("it can be made of again", w.shape(w.apply(most, 0, 1), 1), 4);
    }

    private static void mostCellsOfAVersion() {
        Check.sentence("Terms: a SHAPE has up to 2048 CELLS, that of a VERSION may have more");
        GridVault x = Given.full(1, 0, 15, 0, 15, 0, 15);
        Check.due("read of 4096", x.shape(0, 8), 4096);
        Check.due("read of another 4096", x.shape(x.read(0), 8), 0);
        Check.due("all of them", x.all(0, 0), 4096);
        for (int i = 0; i < OF_ALL_CELLS.length; i++) {
            Make make = OF_ALL_CELLS[i];
            for (int d = 0; d < 3; d++) {
                int along = d;
                Check.throwing("operator " + i + " of 4096", Check.UNSUPPORTED, () -> make.of(x, 0, along));
            }
            Check.refused("operator " + i + " of 4096", Check.UNSUPPORTED, () -> Given.full(1, 0, 15, 0, 15, 0, 15),
                    y -> make.of(y, 0, 0));
            Check.due("operator " + i + " of 2048", make.of(Given.full(1, 0, 15, 0, 7, 0, 15), 0, 0), 1);
        }
    }

    private static void partsOfALargeVersion() {
        Check.sentence("promises 11 to 21: of a VERSION of 4096 CELLS what has up to 2048 can be made");
        GridVault x = Given.full(1, 0, 15, 0, 15, 0, 15);
        for (int d = 0; d < 3; d++) {
            int along = d;
            Check.due("sub of 2048", x.shape(x.sub(0, d, 8, 15), 8), 2048);
            Check.throwing("sub of 2304", Check.UNSUPPORTED, () -> x.sub(0, along, 7, 15));
            Check.due("slice of 256", x.shape(x.slice(0, d, 15), 8), 256);
            Check.due("gather to 256", x.all(x.gather(0, d, 0), 0), 4096);
            Check.due("regrid to 2048", x.all(x.regrid(0, d, 2, 1), 3), 2);
        }
        Check.due("join with 2048", x.shape(x.join(0, 1, 0), 8), 2048);
        Check.due("join with 2048, turned", x.shape(x.join(1, 0, 0), 8), 2048);
        GridVault odd = Given.full(1, -1, 14, 0, 15, 0, 15);
        Check.throwing("regrid to 9 parts: 2304", Check.UNSUPPORTED, () -> odd.regrid(0, 0, 2, 0));
        Check.due("regrid to 6 parts", odd.all(odd.regrid(0, 0, 3, 0), 0), 4096);
    }

    private static void limitsAreLookedAtLast() {
        for (Operator op : OPERATORS) {
            Check.sentence("promises 11 to 21: a DEPTH beyond what is said is looked at last: " + op.name());
            GridVault x = deep(40);
            Check.throwing("wrong", Check.ARGUMENT, () -> op.wrong().of(x, last(x), 0));
            if (op.hasDimension()) {
                Check.throwing("along -1", Check.ARGUMENT, () -> op.right().of(x, last(x), -1));
                Check.throwing("along 2", Check.ARGUMENT, () -> op.right().of(x, last(x), 2));
            }
        }
        Check.sentence("promises 11 to 21: a SHAPE beyond what is said is looked at last");
        GridVault x = Given.full(1, 0, 15, 0, 15, 0, 15);
        Check.throwing("sub, low", Check.ARGUMENT, () -> x.sub(0, 0, -1, 15));
        Check.throwing("sub, high", Check.ARGUMENT, () -> x.sub(0, 0, 0, 16));
        Check.throwing("extend, low", Check.ARGUMENT, () -> x.extend(0, 0, 1, 1000));
        Check.throwing("extend, far", Check.ARGUMENT, () -> x.extend(0, 0, 0, 1001));
        Check.throwing("extend, along 3", Check.ARGUMENT, () -> x.extend(0, 3, 0, 1000));
        Check.throwing("apply", Check.ARGUMENT, () -> x.apply(0, 6, 0));
        Check.throwing("filter", Check.ARGUMENT, () -> x.filter(0, 4, 0));
        Check.throwing("join, op", Check.ARGUMENT, () -> x.join(0, 0, 6));
        Check.throwing("join, second", Check.ARGUMENT, () -> x.join(0, 1, 0));
        Check.throwing("regrid, k", Check.ARGUMENT, () -> x.regrid(0, 0, 0, 0));
        Check.throwing("regrid, what", Check.ARGUMENT, () -> x.regrid(0, 0, 1, 4));
        Check.throwing("window, r", Check.ARGUMENT, () -> x.window(0, 0, 41, 0));
        Check.throwing("window, what", Check.ARGUMENT, () -> x.window(0, 0, 1, -1));
        Check.throwing("swap", Check.ARGUMENT, () -> x.swap(0, 0, 3));
        Check.throwing("product", Check.ARGUMENT, () -> x.product(0, 0));
    }
}

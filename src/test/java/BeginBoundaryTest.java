import java.util.Arrays;

/** Promises 1 and 2, and what Terms say of THE ARRAY: each boundary case by itself. */
public final class BeginBoundaryTest {
    private static final int FAR = Given.FAR;
    private static final int DEEP = Given.DEEP;

    public static void main(String[] args) {
        Check.tests(BeginBoundaryTest::newObject, BeginBoundaryTest::anewOfFullOnes, BeginBoundaryTest::anewOfTheDesk,
                BeginBoundaryTest::endsThatDoNotCount, BeginBoundaryTest::doneTwice, BeginBoundaryTest::lookedAtFirst,
                BeginBoundaryTest::refusedOnesAreNotDone, BeginBoundaryTest::howManyDimensions,
                BeginBoundaryTest::lowestLow, BeginBoundaryTest::highestHigh, BeginBoundaryTest::shortest,
                BeginBoundaryTest::longest, BeginBoundaryTest::largest, BeginBoundaryTest::farEnds,
                BeginBoundaryTest::refusedChangesNothing);
        Check.end();
    }

    private static void begins(String name, int... ends) {
        GridVault x = new GridVault();
        Given.begin(x, ends);
        Check.due(name + ": a first node", x.read(0), 0);
        Check.due(name + ": dimensions", x.shape(0, 0), ends.length / 2);
        for (int i = 0; i < ends.length; i++) {
            Check.due(name + ": end " + i, x.shape(0, 2 + i), ends[i]);
        }
    }

    private static void wrong(String name, int... ends) {
        Check.refused(name + " " + Arrays.toString(ends), Check.ARGUMENT, GridVault::new, x -> Given.begin(x, ends));
    }

    /** Ends of n dimensions, all 0..3 but the one of dimension d. */
    private static int[] but(int n, int d, int low, int high) {
        int[] ends = Arrays.copyOf(new int[] {0, 3, 0, 3, 0, 3}, 2 * n);
        ends[2 * d] = low;
        ends[2 * d + 1] = high;
        return ends;
    }

    private interface Each {
        void dimension(int n, int d);
    }

    private static void inEachDimension(Each each) {
        for (int n = 1; n <= 3; n++) {
            for (int d = 0; d < n; d++) {
                each.dimension(n, d);
            }
        }
    }

    private static void newObject() {
        Check.sentence("promise 1: as begin(1, 0, 0, 0, 0, 0, 0) leaves it");
        GridVault x = new GridVault();
        int[] counts = {1, 0, 0, 0};
        int[] version = {-1, 0, 0, 0};
        for (int what = 0; what < 4; what++) {
            Check.due("count(" + what + ")", x.count(what), counts[what]);
            Check.due("version(0, " + what + ")", x.version(0, what), version[what]);
        }
        Check.throwing("version(1, 0)", Check.ARGUMENT, () -> x.version(1, 0));
        Check.throwing("shape(0, 0)", Check.ARGUMENT, () -> x.shape(0, 0));
        Check.throwing("put before the only cell", Check.INDEX, () -> x.put(-1, 0, 0, 1));
        Check.throwing("put behind the only cell", Check.INDEX, () -> x.put(1, 0, 0, 1));
        Check.throwing("fill of a second dimension", Check.ARGUMENT, () -> x.fill(1, 0, 0, 1));
        Check.node("version 0", x, x.read(0), Given.ends(0, 0), (Long) null);
        x.put(0, 0, 0, 3);
        Check.node("version 1", x, x.read(x.commit()), Given.ends(0, 0), 3L);
    }

    private static void anewOfFullOnes() {
        Check.sentence("promise 2: all anew, though all VERSIONS are there");
        GridVault x = Given.fullOfVersions();
        Given.begin(x, 0, 1);
        Check.same("begin", x, begunTwiceAnew());
        Check.sentence("promise 2: all anew, though all NODES are there");
        GridVault y = Given.nodes(150);
        Given.begin(y, 0, 1);
        Check.same("begin", y, begunTwiceAnew());
    }

    private static GridVault begunTwiceAnew() {
        GridVault x = Given.array(0, 0);
        Given.begin(x, 0, 1);
        return x;
    }

    private static void anewOfTheDesk() {
        Check.sentence("promise 2: all anew, what was put on THE DESK too, and the VERSION that it is of");
        GridVault x = Given.used();
        Given.begin(x, 0, 1);
        Check.same("begin", x, begunTwiceAnew());
    }

    private static void endsThatDoNotCount() {
        Check.sentence("promise 2: lows and highs, those that count");
        GridVault x = new GridVault();
        x.begin(1, 2, 3, 101, -101, FAR, DEEP);
        Check.node("one dimension", x, x.read(0), Given.ends(2, 3), null, null);
        x.begin(2, 2, 3, 4, 4, 9, 8);
        Check.node("two dimensions", x, x.read(0), Given.ends(2, 3, 4, 4), null, null);
        GridVault y = new GridVault();
        y.begin(2, 2, 3, 4, 4, 0, 16);
        Check.node("two dimensions, the third too long", y, y.read(0), Given.ends(2, 3, 4, 4), null, null);
    }

    private static void doneTwice() {
        Check.sentence("promise 2: IllegalStateException: it was done twice");
        GridVault x = new GridVault();
        x.begin(1, 0, 1, 0, 0, 0, 0);
        x.begin(1, 0, 2, 0, 0, 0, 0);
        Check.node("the second begin", x, x.read(0), Given.ends(0, 2), null, null, null);
        Check.throwing("the third begin", Check.STATE, () -> x.begin(1, 0, 3, 0, 0, 0, 0));
        Check.throwing("the fourth begin", Check.STATE, () -> x.begin(1, 0, 3, 0, 0, 0, 0));
        Check.due("the array is as it was", x.shape(0, 3), 2);
    }

    private static void lookedAtFirst() {
        Check.sentence("promise 2: that it was done twice is looked at first");
        GridVault x = Given.begunTwice();
        int[][] wrong = {{0, 0, 0}, {4, 0, 0}, {1, 1, 0}, {1, 0, 16}, {1, -101, -100}, {1, 100, 101}};
        for (int[] w : wrong) {
            Check.throwing("a wrong third begin", Check.STATE, () -> x.begin(w[0], w[1], w[2], 0, 0, 0, 0));
            Check.throwing("a wrong first begin", Check.ARGUMENT,
                    () -> new GridVault().begin(w[0], w[1], w[2], 0, 0, 0, 0));
        }
    }

    private static void refusedOnesAreNotDone() {
        Check.sentence("promise 2: a begin that throws was not done");
        GridVault x = new GridVault();
        for (int i = 0; i < 3; i++) {
            Check.throwing("n is 0", Check.ARGUMENT, () -> x.begin(0, 0, 0, 0, 0, 0, 0));
            Check.throwing("17 long", Check.ARGUMENT, () -> x.begin(1, 0, 16, 0, 0, 0, 0));
        }
        x.begin(1, 0, 4, 0, 0, 0, 0);
        Check.throwing("17 long", Check.ARGUMENT, () -> x.begin(1, 0, 16, 0, 0, 0, 0));
        x.begin(1, 0, 5, 0, 0, 0, 0);
        x.read(0);
        Check.due("the second begin is done", x.shape(0, 3), 5);
        Check.throwing("the third one is not", Check.STATE, () -> x.begin(1, 0, 6, 0, 0, 0, 0));
    }

    private static void howManyDimensions() {
        Check.sentence("promise 2: IllegalArgumentException: n is not 1..3");
        int[] wrong = {DEEP, -1, 0, 4, 5, FAR};
        for (int n : wrong) {
            Check.refused("n is " + n, Check.ARGUMENT, GridVault::new, x -> x.begin(n, 0, 0, 0, 0, 0, 0));
        }
        begins("n is 1", 0, 0);
        begins("n is 2", 0, 0, 0, 0);
        begins("n is 3", 0, 0, 0, 0, 0, 0);
    }

    private static void lowestLow() {
        Check.sentence("Terms: a low of -100, not of -101");
        inEachDimension((n, d) -> {
            begins("from -100", but(n, d, -100, -90));
            wrong("from -101", but(n, d, -101, -90));
            begins("only -100", but(n, d, -100, -100));
            wrong("only -101", but(n, d, -101, -101));
        });
    }

    private static void highestHigh() {
        Check.sentence("Terms: a high of 100, not of 101");
        inEachDimension((n, d) -> {
            begins("to 100", but(n, d, 90, 100));
            wrong("to 101", but(n, d, 90, 101));
            begins("only 100", but(n, d, 100, 100));
            wrong("only 101", but(n, d, 101, 101));
        });
    }

    private static void shortest() {
        Check.sentence("Terms: from a low to a high, which may be the same place, but not below it");
        inEachDimension((n, d) -> {
            begins("one place", but(n, d, -7, -7));
            wrong("none", but(n, d, -7, -8));
            wrong("upside down", but(n, d, 100, -100));
        });
    }

    private static void longest() {
        Check.sentence("Terms: up to 16 long");
        inEachDimension((n, d) -> {
            begins("16 from -100", but(n, d, -100, -85));
            wrong("17 from -100", but(n, d, -100, -84));
            begins("16 to 100", but(n, d, 85, 100));
            wrong("17 to 100", but(n, d, 84, 100));
            begins("16 round 0", but(n, d, -8, 7));
            wrong("17 round 0", but(n, d, -8, 8));
            wrong("all places", but(n, d, -100, 100));
        });
    }

    private static void largest() {
        Check.sentence("Terms: three DIMENSIONS, each 16 long: each place has a CELL of its own");
        GridVault x = Given.array(-100, -85, 85, 100, -8, 7);
        x.fill(2, -8, 7, 4);
        Check.due("4096 cells", x.count(3), 4096);
        x.put(-100, 85, -8, 1);
        x.put(-85, 100, 7, 2);
        int node = x.read(x.commit());
        Check.due("the first cell", x.cell(node, -100, 85, -8), 1);
        Check.due("the last cell", x.cell(node, -85, 100, 7), 2);
        Check.due("its neighbour", x.cell(node, -85, 100, 6), 4);
        Check.due("all of them", x.all(node, 0), 4094 * 4 + 3);
    }

    private static void farEnds() {
        Check.sentence("promise 2: IllegalArgumentException: they are not as said, however far away");
        inEachDimension((n, d) -> {
            wrong("from the least to the greatest", but(n, d, DEEP, FAR));
            wrong("from the greatest to the least", but(n, d, FAR, DEEP));
            wrong("from the least", but(n, d, DEEP, 0));
            wrong("only the least", but(n, d, DEEP, DEEP));
            wrong("to the greatest", but(n, d, 0, FAR));
            wrong("only the greatest", but(n, d, FAR, FAR));
        });
    }

    private static void refusedChangesNothing() {
        Check.sentence("promise 2: a begin that throws changes nothing");
        Check.refused("n is 0", Check.ARGUMENT, Given::used, x -> x.begin(0, 0, 0, 0, 0, 0, 0));
        Check.refused("n is 4", Check.ARGUMENT, Given::used, x -> x.begin(4, 0, 0, 0, 0, 0, 0));
        Check.refused("the last end is wrong", Check.ARGUMENT, Given::used, x -> x.begin(3, 0, 0, 0, 0, 0, 16));
        Check.refused("done twice", Check.STATE, Given::begunTwice, x -> x.begin(1, 0, 0, 0, 0, 0, 0));
        Check.refused("done twice, and wrong", Check.STATE, Given::begunTwice, x -> x.begin(0, 0, 0, 0, 0, 0, 0));
    }
}

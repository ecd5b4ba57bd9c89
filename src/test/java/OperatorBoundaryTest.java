import java.util.function.Consumer;

/** Promises 11 to 21, what each says of itself, and what Terms say of it: each boundary case by itself. */
public final class OperatorBoundaryTest {
    private static final int FAR = Given.FAR;
    private static final int DEEP = Given.DEEP;
    private static final long LEAST = Long.MIN_VALUE;
    private static final long GREATEST = Long.MAX_VALUE;

    public static void main(String[] args) {
        Check.tests(OperatorBoundaryTest::subOfOnePlaceAndOfAll, OperatorBoundaryTest::subUpsideDown,
                OperatorBoundaryTest::subBeyondTheEnds, OperatorBoundaryTest::sliceAtTheEnds,
                OperatorBoundaryTest::sliceBeyondTheEnds, OperatorBoundaryTest::sliceOfOneDimension,
                OperatorBoundaryTest::extendByNothing, OperatorBoundaryTest::extendIsEmpty,
                OperatorBoundaryTest::extendToFewer, OperatorBoundaryTest::extendTooFar,
                OperatorBoundaryTest::applyOfOthers, OperatorBoundaryTest::applyByZero,
                OperatorBoundaryTest::applyCutsTowardsZero, OperatorBoundaryTest::applyWraps,
                OperatorBoundaryTest::applyToEmptyCells, OperatorBoundaryTest::filterOfOthers,
                OperatorBoundaryTest::filterAtTheNumber, OperatorBoundaryTest::filterAtTheLeastAndTheGreatest,
                OperatorBoundaryTest::filterOfEmptyCells, OperatorBoundaryTest::joinOfOthers,
                OperatorBoundaryTest::joinOfOtherDimensions, OperatorBoundaryTest::joinOfOnePlace,
                OperatorBoundaryTest::joinOfThreeDimensions, OperatorBoundaryTest::joinOfNoPlace,
                OperatorBoundaryTest::joinOfEmptyCells, OperatorBoundaryTest::joinWraps,
                OperatorBoundaryTest::gatherOfOthers, OperatorBoundaryTest::gatherOfOneDimension,
                OperatorBoundaryTest::gatherOfNone, OperatorBoundaryTest::gatherOfOnePlace,
                OperatorBoundaryTest::regridOfOthers, OperatorBoundaryTest::regridByTheLeastAndTheMost,
                OperatorBoundaryTest::regridDownwards, OperatorBoundaryTest::regridOfNone,
                OperatorBoundaryTest::windowOfOthers, OperatorBoundaryTest::windowOfTheLeastAndTheMost,
                OperatorBoundaryTest::windowAtTheEnds, OperatorBoundaryTest::windowOfNone,
                OperatorBoundaryTest::togetherOfOneAndMany, OperatorBoundaryTest::sumsWrap,
                OperatorBoundaryTest::swapOfTheSame, OperatorBoundaryTest::productOfOtherDimensions,
                OperatorBoundaryTest::productOfNoPlace, OperatorBoundaryTest::productOfOnePlace,
                OperatorBoundaryTest::productOfEmptyCells, OperatorBoundaryTest::productWraps);
        Check.end();
    }

    /** -1..1 by 2..5, all cells different, and one empty. */
    private static GridVault flat() {
        return Given.cells(Given.ends(-1, 1, 2, 5), 1L, 2L, 3L, 4L, 5L, null, 7L, 8L, 9L, 10L, 11L, 12L);
    }

    private static GridVault box() {
        return Given.cells(Given.ends(-1, 0, 0, 1, 4, 5), 1L, 2L, 3L, 4L, 5L, null, 7L, 8L);
    }

    /** Node 0 has three dimensions, node 1 has two, node 2 has one; all are 0..1. */
    private static GridVault threeTwoOne() {
        GridVault x = Given.ones(3);
        x.slice(0, 0, 0);
        x.slice(1, 0, 0);
        return x;
    }

    private static void refused(String name, Consumer<GridVault> call) {
        Check.refused(name, Check.ARGUMENT, OperatorBoundaryTest::flat, call);
    }

    private static void subOfOnePlaceAndOfAll() {
        Check.sentence("Terms: sub: from a low to a high that it has: one place at each end, and all");
        GridVault x = flat();
        Check.node("the first row", x, x.sub(0, 0, -1, -1), Given.ends(-1, -1, 2, 5), 1L, 2L, 3L, 4L);
        Check.node("the last row", x, x.sub(0, 0, 1, 1), Given.ends(1, 1, 2, 5), 9L, 10L, 11L, 12L);
        Check.node("the first column", x, x.sub(0, 1, 2, 2), Given.ends(-1, 1, 2, 2), 1L, 5L, 9L);
        Check.node("the last column", x, x.sub(0, 1, 5, 5), Given.ends(-1, 1, 5, 5), 4L, 8L, 12L);
        Check.node("all", x, x.sub(0, 1, 2, 5), Given.ends(-1, 1, 2, 5), 1L, 2L, 3L, 4L, 5L, null, 7L, 8L, 9L, 10L,
                11L, 12L);
        GridVault y = box();
        Check.node("the last of three", y, y.sub(0, 2, 5, 5), Given.ends(-1, 0, 0, 1, 5, 5), 2L, 4L, null, 8L);
        Check.node("the first of three", y, y.sub(0, 0, -1, -1), Given.ends(-1, -1, 0, 1, 4, 5), 1L, 2L, 3L, 4L);
        Check.node("the second of three", y, y.sub(0, 1, 1, 1), Given.ends(-1, 0, 1, 1, 4, 5), 3L, 4L, 7L, 8L);
    }

    private static void subUpsideDown() {
        Check.sentence("promise 11: IllegalArgumentException: low is above high");
        refused("by one", x -> x.sub(0, 0, 1, 0));
        refused("from end to end", x -> x.sub(0, 1, 5, 2));
        refused("by very much", x -> x.sub(0, 0, FAR, DEEP));
    }

    private static void subBeyondTheEnds() {
        Check.sentence("promise 11: IllegalArgumentException: not as said: from a low to a high that it has");
        refused("low", x -> x.sub(0, 0, -2, 1));
        refused("high", x -> x.sub(0, 0, -1, 2));
        refused("low of the second", x -> x.sub(0, 1, 1, 5));
        refused("high of the second", x -> x.sub(0, 1, 2, 6));
        refused("before it", x -> x.sub(0, 0, -2, -2));
        refused("behind it", x -> x.sub(0, 0, 2, 2));
        refused("very far", x -> x.sub(0, 0, DEEP, FAR));
        GridVault x = flat();
        int part = x.sub(0, 1, 3, 4);
        Check.throwing("what the source had, low", Check.ARGUMENT, () -> x.sub(part, 1, 2, 3));
        Check.throwing("what the source had, high", Check.ARGUMENT, () -> x.sub(part, 1, 4, 5));
    }

    private static void sliceAtTheEnds() {
        Check.sentence("Terms: slice: at one place of DIMENSION d, the first or the last; this is gone");
        GridVault x = flat();
        Check.node("the first row", x, x.slice(0, 0, -1), Given.ends(2, 5), 1L, 2L, 3L, 4L);
        Check.node("the last row", x, x.slice(0, 0, 1), Given.ends(2, 5), 9L, 10L, 11L, 12L);
        Check.node("the first column", x, x.slice(0, 1, 2), Given.ends(-1, 1), 1L, 5L, 9L);
        Check.node("the last column", x, x.slice(0, 1, 5), Given.ends(-1, 1), 4L, 8L, 12L);
        GridVault y = box();
        Check.node("the first of three", y, y.slice(0, 0, 0), Given.ends(0, 1, 4, 5), 5L, null, 7L, 8L);
        Check.node("the second of three", y, y.slice(0, 1, 0), Given.ends(-1, 0, 4, 5), 1L, 2L, 5L, null);
        Check.node("the third of three", y, y.slice(0, 2, 5), Given.ends(-1, 0, 0, 1), 2L, 4L, null, 8L);
    }

    private static void sliceBeyondTheEnds() {
        Check.sentence("promise 12: IllegalArgumentException: not as said: at one place of DIMENSION d");
        int[][] beyond = {{0, -2}, {0, 2}, {1, 1}, {1, 6}, {0, DEEP}, {1, FAR}};
        for (int[] b : beyond) {
            refused("at " + b[1] + " of " + b[0], x -> x.slice(0, b[0], b[1]));
        }
    }

    private static void sliceOfOneDimension() {
        Check.sentence("promise 12: IllegalArgumentException: a has just one DIMENSION");
        Check.refused("slice of a row", Check.ARGUMENT, () -> Given.row(0, 1L, 2L), x -> x.slice(0, 0, 0));
        GridVault x = box();
        int two = x.slice(0, 0, 0);
        int one = x.slice(two, 0, 0);
        Check.due("three, two, one", x.shape(one, 0), 1);
        Check.throwing("slice of a slice of a slice", Check.ARGUMENT, () -> x.slice(one, 0, 4));
    }

    private static void extendByNothing() {
        Check.sentence("Terms: extend: from a low to a high with those that it has, which may be all");
        GridVault x = flat();
        Check.node("by none", x, x.extend(0, 0, -1, 1), Given.ends(-1, 1, 2, 5), 1L, 2L, 3L, 4L, 5L, null, 7L, 8L, 9L,
                10L, 11L, 12L);
        Check.due("it is a node more", x.count(1), 2);
    }

    private static void extendIsEmpty() {
        Check.sentence("Terms: extend: what is new is empty");
        GridVault x = Given.row(3, 7L, null);
        Check.node("by one before", x, x.extend(0, 0, 2, 4), Given.ends(2, 4), null, 7L, null);
        Check.node("by one behind", x, x.extend(0, 0, 3, 5), Given.ends(3, 5), 7L, null, null);
        GridVault y = Given.cells(Given.ends(0, 1, 0, 1), 1L, 2L, 3L, 4L);
        Check.node("the first of two", y, y.extend(0, 0, -1, 2), Given.ends(-1, 2, 0, 1), null, null, 1L, 2L, 3L, 4L,
                null, null);
        Check.node("the second of two", y, y.extend(0, 1, -1, 2), Given.ends(0, 1, -1, 2), null, 1L, 2L, null, null,
                3L, 4L, null);
    }

    private static void extendToFewer() {
        Check.sentence("promise 13: IllegalArgumentException: low is above that of a, high below");
        refused("low", x -> x.extend(0, 0, 0, 1));
        refused("high", x -> x.extend(0, 0, -1, 0));
        refused("low of the second", x -> x.extend(0, 1, 3, 5));
        refused("high of the second", x -> x.extend(0, 1, 2, 4));
        refused("low above high", x -> x.extend(0, 0, 2, -2));
        refused("before it", x -> x.extend(0, 0, -9, -2));
        refused("behind it", x -> x.extend(0, 0, 2, 9));
    }

    /** No node reaches 1000: it would be too deep or too long. So it is what is thrown that tells 1000 from 1001. */
    private static void extendTooFar() {
        Check.sentence("promise 13: IllegalArgumentException: beyond -1000 to 1000");
        refused("to 1001", x -> x.extend(0, 0, -1, 1001));
        refused("from -1001", x -> x.extend(0, 0, -1001, 1));
        refused("from -1001 in the second", x -> x.extend(0, 1, -1001, 5));
        refused("to 1001 in the second", x -> x.extend(0, 1, 2, 1001));
        refused("very far", x -> x.extend(0, 0, DEEP, FAR));
        refused("to very far", x -> x.extend(0, 0, -1, FAR));
        refused("from very far", x -> x.extend(0, 0, DEEP, 1));
        Check.refused("to 1000", Check.UNSUPPORTED, OperatorBoundaryTest::flat, x -> x.extend(0, 0, -1, 1000));
        Check.refused("from -1000", Check.UNSUPPORTED, OperatorBoundaryTest::flat, x -> x.extend(0, 0, -1000, 1));
        Check.refused("both", Check.UNSUPPORTED, OperatorBoundaryTest::flat, x -> x.extend(0, 0, -1000, 1000));
        GridVault x = Given.row(100, 6L);
        int last = 0;
        for (int i = 1; i <= 19; i++) {
            last = x.extend(last, 0, 61 + 39 * i, 100 + 39 * i);
            last = i < 19 ? x.sub(last, 0, 100 + 39 * i, 100 + 39 * i) : last;
        }
        Check.due("far beyond the array's ends", x.shape(last, 3), 841);
        Check.due("its low", x.shape(last, 2), 802);
    }

    private static void applyOfOthers() {
        Check.sentence("promise 14: IllegalArgumentException: op is not 0..5");
        int[] others = {DEEP, -1, 6, 7, 10, FAR};
        for (int op : others) {
            refused("op is " + op, x -> x.apply(0, op, 1));
        }
        long[] want = {8, 12, 3, 0, -4, 0};
        GridVault x = Given.row(0, 6L);
        for (int op = 0; op < 6; op++) {
            Check.node("op is " + op, x, x.apply(0, op, 2), Given.ends(0, 0), want[op]);
        }
    }

    private static void applyByZero() {
        Check.sentence("Terms: apply: by 0: empty");
        GridVault x = Given.row(-1, -6L, 0L, 1L, LEAST);
        int[] ends = Given.ends(-1, 2);
        Check.node("/ 0", x, x.apply(0, 2, 0), ends, null, null, null, null);
        Check.node("what / 0 leaves", x, x.apply(0, 3, 0), ends, null, null, null, null);
        Check.node("6 / it", x, x.apply(0, 5, 6), ends, -1L, null, 6L, 0L);
        Check.node("0 / it", x, x.apply(0, 5, 0), ends, 0L, null, 0L, 0L);
        Check.node("/ 1", x, x.apply(0, 2, 1), ends, -6L, 0L, 1L, LEAST);
        Check.node("what / -1 leaves", x, x.apply(0, 3, -1), ends, 0L, 0L, 0L, 0L);
        Check.node("+ 0", x, x.apply(0, 0, 0), ends, -6L, 0L, 1L, LEAST);
        Check.node("* 0", x, x.apply(0, 1, 0), ends, 0L, 0L, 0L, 0L);
        Check.node("0 less it", x, x.apply(0, 4, 0), ends, 6L, 0L, -1L, LEAST);
    }

    private static void applyCutsTowardsZero() {
        Check.sentence("Terms: apply: / c, cut towards 0, and what / leaves");
        GridVault x = Given.row(0, 7L, -7L, 3L, -3L, 4L, -4L);
        int[] ends = Given.ends(0, 5);
        Check.node("/ 4", x, x.apply(0, 2, 4), ends, 1L, -1L, 0L, 0L, 1L, -1L);
        Check.node("/ -4", x, x.apply(0, 2, -4), ends, -1L, 1L, 0L, 0L, -1L, 1L);
        Check.node("what / 4 leaves", x, x.apply(0, 3, 4), ends, 3L, -3L, 3L, -3L, 0L, 0L);
        Check.node("what / -4 leaves", x, x.apply(0, 3, -4), ends, 3L, -3L, 3L, -3L, 0L, 0L);
        Check.node("10 / it", x, x.apply(0, 5, 10), ends, 1L, -1L, 3L, -3L, 2L, -2L);
        Check.node("-10 / it", x, x.apply(0, 5, -10), ends, -1L, 1L, -3L, 3L, -2L, 2L);
    }

    private static void applyWraps() {
        Check.sentence("Terms: + - * wrap: apply");
        GridVault x = Given.row(0, LEAST, -1L, GREATEST);
        int[] ends = Given.ends(0, 2);
        Check.node("+ 1", x, x.apply(0, 0, 1), ends, LEAST + 1, 0L, LEAST);
        Check.node("+ -1", x, x.apply(0, 0, -1), ends, GREATEST, -2L, GREATEST - 1);
        Check.node("+ the greatest", x, x.apply(0, 0, GREATEST), ends, -1L, GREATEST - 1, -2L);
        Check.node("* 2", x, x.apply(0, 1, 2), ends, 0L, -2L, -2L);
        Check.node("* -1", x, x.apply(0, 1, -1), ends, LEAST, 1L, -GREATEST);
        Check.node("* the greatest", x, x.apply(0, 1, GREATEST), ends, LEAST, -GREATEST, 1L);
        Check.node("the least less it", x, x.apply(0, 4, LEAST), ends, 0L, LEAST + 1, 1L);
        Check.node("the greatest less it", x, x.apply(0, 4, GREATEST), ends, -1L, LEAST, 0L);
        Check.node("/ -1", x, x.apply(0, 2, -1), ends, LEAST, 1L, -GREATEST);
        Check.node("the least / it", x, x.apply(0, 5, LEAST), ends, 1L, LEAST, -1L);
    }

    private static void applyToEmptyCells() {
        Check.sentence("Terms: apply: an empty CELL stays empty");
        GridVault x = Given.row(0, null, 0L);
        Long[] want = {1L, 0L, 0L, 0L, 1L, null};
        for (int op = 0; op < 6; op++) {
            Check.node("op " + op, x, x.apply(0, op, 1), Given.ends(0, 1), null, want[op]);
        }
    }

    private static void filterOfOthers() {
        Check.sentence("promise 15: IllegalArgumentException: relation is not 0..3");
        int[] others = {DEEP, -1, 4, 5, FAR};
        for (int relation : others) {
            refused("relation is " + relation, x -> x.filter(0, relation, 1));
        }
    }

    private static void filterAtTheNumber() {
        Check.sentence("Terms: filter: =, not =, below, not below c: c itself and its neighbours");
        long[] numbers = {-5, 0, 1, 1L << 32};
        int[] ends = Given.ends(0, 2);
        for (long c : numbers) {
            GridVault x = Given.row(0, c - 1, c, c + 1);
            Check.node("= " + c, x, x.filter(0, 0, c), ends, null, c, null);
            Check.node("not = " + c, x, x.filter(0, 1, c), ends, c - 1, null, c + 1);
            Check.node("below " + c, x, x.filter(0, 2, c), ends, c - 1, null, null);
            Check.node("not below " + c, x, x.filter(0, 3, c), ends, null, c, c + 1);
        }
    }

    private static void filterAtTheLeastAndTheGreatest() {
        Check.sentence("Terms: filter: none and all remain");
        GridVault x = Given.row(0, LEAST, 0L, GREATEST);
        int[] ends = Given.ends(0, 2);
        Check.node("below the least", x, x.filter(0, 2, LEAST), ends, null, null, null);
        Check.node("not below the least", x, x.filter(0, 3, LEAST), ends, LEAST, 0L, GREATEST);
        Check.node("below the greatest", x, x.filter(0, 2, GREATEST), ends, LEAST, 0L, null);
        Check.node("not below the greatest", x, x.filter(0, 3, GREATEST), ends, null, null, GREATEST);
        Check.node("= 7", x, x.filter(0, 0, 7), ends, null, null, null);
        Check.node("not = 7", x, x.filter(0, 1, 7), ends, LEAST, 0L, GREATEST);
    }

    private static void filterOfEmptyCells() {
        Check.sentence("Terms: filter: an empty CELL is empty, though 0 would remain");
        GridVault x = Given.row(0, null, 0L);
        Check.node("= 0", x, x.filter(0, 0, 0), Given.ends(0, 1), null, 0L);
        Check.node("not = 1", x, x.filter(0, 1, 1), Given.ends(0, 1), null, 0L);
        Check.node("below 1", x, x.filter(0, 2, 1), Given.ends(0, 1), null, 0L);
        Check.node("not below 0", x, x.filter(0, 3, 0), Given.ends(0, 1), null, 0L);
    }

    private static void joinOfOthers() {
        Check.sentence("promise 16: IllegalArgumentException: op is not 0..5");
        int[] others = {DEEP, -1, 6, 7, FAR};
        for (int op : others) {
            refused("op is " + op, x -> x.join(0, 0, op));
        }
        long[] want = {5, -9, -14, -2, 7, -2};
        GridVault x = Given.row(0, -2L);
        int b = Given.more(x, Given.ends(0, 0), 7L);
        for (int op = 0; op < 6; op++) {
            Check.node("op is " + op, x, x.join(0, b, op), Given.ends(0, 0), want[op]);
        }
        Check.node("the least of the same", x, x.join(0, 0, 3), Given.ends(0, 0), -2L);
        Check.node("the greatest, turned", x, x.join(b, 0, 4), Given.ends(0, 0), 7L);
        Check.node("the least, turned", x, x.join(b, 0, 3), Given.ends(0, 0), -2L);
    }

    private static void joinOfOtherDimensions() {
        Check.sentence("Terms: join of a and b with as many DIMENSIONS");
        for (int i = 0; i < 9; i++) {
            GridVault x = threeTwoOne();
            int a = i / 3;
            int b = i % 3;
            if (a == b) {
                Check.due("join of as many", x.shape(x.join(a, b, 0), 0), 3 - a);
            } else {
                Check.throwing("join of " + (3 - a) + " and " + (3 - b), Check.ARGUMENT, () -> x.join(a, b, 0));
            }
        }
        Check.refused("join of two and one", Check.ARGUMENT, () -> Given.nodes(2), y -> y.join(0, 1, 0));
        Check.refused("join of one and two", Check.ARGUMENT, () -> Given.nodes(2), y -> y.join(1, 0, 0));
    }

    private static void joinOfOnePlace() {
        Check.sentence("Terms: join: places that both have: just one, at the end of both");
        GridVault x = Given.row(-1, 1L, 2L, 3L);
        int low = x.sub(0, 0, -1, 0);
        int high = x.sub(0, 0, 0, 1);
        Check.node("in one dimension", x, x.join(low, high, 2), Given.ends(0, 0), 4L);
        Check.node("turned", x, x.join(high, low, 2), Given.ends(0, 0), 4L);
        Check.node("one within the other", x, x.join(0, x.sub(0, 0, 0, 0), 0), Given.ends(0, 0), 4L);
        GridVault y = flat();
        int first = y.sub(y.sub(0, 0, -1, 0), 1, 2, 4);
        int last = y.sub(y.sub(0, 0, 0, 1), 1, 4, 5);
        Check.node("a corner of both", y, y.join(first, last, 0), Given.ends(0, 0, 4, 4), 14L);
        int other = y.sub(y.sub(0, 0, 0, 1), 1, 2, 3);
        int cross = y.sub(y.sub(0, 0, -1, 0), 1, 3, 5);
        Check.node("another corner", y, y.join(other, cross, 0), Given.ends(0, 0, 3, 3), (Long) null);
    }

    private static void joinOfThreeDimensions() {
        Check.sentence("Terms: join: places that both have, in each of three DIMENSIONS");
        Long[] cells = new Long[24];
        for (int i = 0; i < cells.length; i++) {
            cells[i] = i + 1L;
        }
        GridVault x = Given.cells(Given.ends(0, 2, 0, 1, 5, 8), cells);
        int a = x.sub(0, 2, 5, 7);
        int b = x.sub(x.sub(0, 2, 6, 8), 0, 1, 2);
        int[] ends = Given.ends(1, 2, 0, 1, 6, 7);
        Check.node("a and b", x, x.join(a, b, 0), ends, 20L, 22L, 28L, 30L, 36L, 38L, 44L, 46L);
        Check.node("b and a", x, x.join(b, a, 5), ends, 10L, 11L, 14L, 15L, 18L, 19L, 22L, 23L);
        int c = x.sub(0, 1, 1, 1);
        Check.node("b and c", x, x.join(b, c, 5), Given.ends(1, 2, 1, 1, 6, 8), 14L, 15L, 16L, 22L, 23L, 24L);
    }

    private static void joinOfNoPlace() {
        Check.sentence("promise 16: IllegalArgumentException: there is no place that both have");
        for (int dimensions = 1; dimensions <= 3; dimensions++) {
            for (int dimension = 0; dimension < dimensions; dimension++) {
                int n = dimensions;
                int d = dimension;
                Check.refused("neighbours along " + d, Check.ARGUMENT, () -> halves(n, d), x -> x.join(1, 2, 0));
                Check.refused("neighbours along " + d + ", turned", Check.ARGUMENT, () -> halves(n, d),
                        x -> x.join(2, 1, 0));
                Check.due("the same along " + d, halves(n, d).join(2, 2, 0), 3);
            }
        }
        GridVault x = Given.row(-5, 1L, null, null, 1L);
        int before = x.sub(0, 0, -5, -5);
        int behind = x.sub(0, 0, -2, -2);
        Check.throwing("far apart", Check.ARGUMENT, () -> x.join(before, behind, 0));
    }

    private static GridVault halves(int n, int d) {
        GridVault x = Given.ones(n);
        x.sub(0, d, 0, 0);
        x.sub(0, d, 1, 1);
        return x;
    }

    private static void joinOfEmptyCells() {
        Check.sentence("Terms: join: where both are not empty");
        GridVault x = Given.row(0, 1L, null, 3L, null);
        int b = Given.more(x, Given.ends(0, 3), 5L, 6L, null, null);
        long[] want = {6, -4, 5, 1, 5, 1};
        for (int op = 0; op < 6; op++) {
            Check.node("op " + op, x, x.join(0, b, op), Given.ends(0, 3), want[op], null, null, null);
        }
    }

    private static void joinWraps() {
        Check.sentence("Terms: + - * wrap: join");
        GridVault x = Given.row(0, LEAST, GREATEST, LEAST, 1L << 32);
        int b = Given.more(x, Given.ends(0, 3), -1L, 1L, LEAST, 1L << 32);
        int[] ends = Given.ends(0, 3);
        Check.node("+", x, x.join(0, b, 0), ends, GREATEST, LEAST, 0L, 1L << 33);
        Check.node("-", x, x.join(0, b, 1), ends, LEAST + 1, GREATEST - 1, 0L, 0L);
        Check.node("-, turned", x, x.join(b, 0, 1), ends, GREATEST, 2 + LEAST, 0L, 0L);
        Check.node("*", x, x.join(0, b, 2), ends, LEAST, GREATEST, 0L, 0L);
        Check.node("the least", x, x.join(0, b, 3), ends, LEAST, 1L, LEAST, 1L << 32);
        Check.node("the greatest", x, x.join(0, b, 4), ends, -1L, GREATEST, LEAST, 1L << 32);
    }

    private static void gatherOfOthers() {
        Check.sentence("promise 17: IllegalArgumentException: what is not 0..3");
        int[] others = {DEEP, -1, 4, 5, FAR};
        for (int what : others) {
            refused("what is " + what, x -> x.gather(0, 0, what));
        }
        GridVault x = flat();
        long[][] want = {{10, 20, 42}, {4, 3, 4}, {1, 5, 9}, {4, 8, 12}};
        for (int what = 0; what < 4; what++) {
            Check.node("what is " + what, x, x.gather(0, 1, what), Given.ends(-1, 1), want[what][0], want[what][1],
                    want[what][2]);
        }
    }

    private static void gatherOfOneDimension() {
        Check.sentence("promise 17: IllegalArgumentException: a has just one DIMENSION");
        Check.refused("gather of a row", Check.ARGUMENT, () -> Given.row(0, 1L, 2L), x -> x.gather(0, 0, 0));
        GridVault x = box();
        int two = x.gather(0, 2, 0);
        Check.node("of three", x, two, Given.ends(-1, 0, 0, 1), 3L, 7L, 5L, 15L);
        int one = x.gather(two, 0, 0);
        Check.node("of two", x, one, Given.ends(0, 1), 8L, 22L);
        Check.throwing("of one", Check.ARGUMENT, () -> x.gather(one, 0, 0));
        Check.node("along the first", x, x.gather(0, 0, 0), Given.ends(0, 1, 4, 5), 6L, 2L, 10L, 12L);
        Check.node("along the second", x, x.gather(0, 1, 0), Given.ends(-1, 0, 4, 5), 4L, 6L, 12L, 8L);
    }

    private static void gatherOfNone() {
        Check.sentence("Terms: TAKING TOGETHER of none: empty: gather");
        GridVault x = Given.cells(Given.ends(0, 1, 0, 1), 0L, null, null, null);
        for (int what = 0; what < 4; what++) {
            Long of = what == 1 ? 1L : 0L;
            Check.node("along the second, " + what, x, x.gather(0, 1, what), Given.ends(0, 1), of, null);
            Check.node("along the first, " + what, x, x.gather(0, 0, what), Given.ends(0, 1), of, null);
        }
    }

    private static void gatherOfOnePlace() {
        Check.sentence("Terms: gather: all along a DIMENSION of just one place");
        GridVault x = Given.cells(Given.ends(5, 5, 0, 2), 4L, null, -6L);
        Check.node("the sum", x, x.gather(0, 0, 0), Given.ends(0, 2), 4L, null, -6L);
        Check.node("how many", x, x.gather(0, 0, 1), Given.ends(0, 2), 1L, null, 1L);
        Check.node("the other", x, x.gather(0, 1, 2), Given.ends(5, 5), -6L);
    }

    private static void regridOfOthers() {
        Check.sentence("promise 18: IllegalArgumentException: k is not 1..40");
        int[] others = {DEEP, -40, -1, 0, 41, 42, FAR};
        for (int k : others) {
            refused("k is " + k, x -> x.regrid(0, 0, k, 0));
            refused("k is " + k + " in the second", x -> x.regrid(0, 1, k, 0));
        }
        Check.sentence("promise 18: IllegalArgumentException: what is not as said: 0..3");
        int[] whats = {DEEP, -1, 4, 5, FAR};
        for (int what : whats) {
            refused("what is " + what, x -> x.regrid(0, 0, 1, what));
        }
        GridVault x = Given.row(2, 5L, -3L, null, 9L);
        long[][] want = {{2, 9}, {2, 1}, {-3, 9}, {5, 9}};
        for (int what = 0; what < 4; what++) {
            Check.node("what is " + what, x, x.regrid(0, 0, 2, what), Given.ends(1, 2), want[what][0], want[what][1]);
        }
    }

    private static void regridByTheLeastAndTheMost() {
        Check.sentence("promise 18: k is 1, and 40");
        GridVault x = Given.row(-2, 5L, null, 7L);
        Check.node("k is 1", x, x.regrid(0, 0, 1, 0), Given.ends(-2, 0), 5L, null, 7L);
        Check.node("k is 40", x, x.regrid(0, 0, 40, 0), Given.ends(-1, 0), 5L, 7L);
        int all = x.extend(x.sub(0, 0, 0, 0), 0, 0, 39);
        Check.node("40 places in one part", x, x.regrid(all, 0, 40, 0), Given.ends(0, 0), 7L);
        Check.node("40 places in two parts", x, x.regrid(all, 0, 39, 0), Given.ends(0, 1), 7L, null);
        int round = x.extend(0, 0, -2, 37);
        Check.node("40 places over 0", x, x.regrid(round, 0, 40, 0), Given.ends(-1, 0), 5L, 7L);
        int before = x.extend(x.sub(0, 0, -2, -1), 0, -40, -1);
        Check.node("40 places before 0", x, x.regrid(before, 0, 40, 1), Given.ends(-1, -1), 1L);
    }

    private static void regridDownwards() {
        Check.sentence("Terms: regrid: place x comes to x / k (downwards)");
        GridVault x = Given.row(-7, 1L, 2L, 3L, 4L, 5L, 6L, 7L, 8L, 9L, 10L, 11L);
        Check.node("by 3", x, x.regrid(0, 0, 3, 0), Given.ends(-3, 1), 1L, 9L, 18L, 27L, 11L);
        Check.node("by 4", x, x.regrid(0, 0, 4, 0), Given.ends(-2, 0), 6L, 22L, 38L);
        Check.node("by 7", x, x.regrid(0, 0, 7, 1), Given.ends(-1, 0), 7L, 4L);
        Check.node("by 8", x, x.regrid(0, 0, 8, 3), Given.ends(-1, 0), 7L, 11L);
        GridVault y = Given.cells(Given.ends(0, 0, -1, 0), 3L, 4L);
        Check.node("-1 and 0 in the second", y, y.regrid(0, 1, 2, 0), Given.ends(0, 0, -1, 0), 3L, 4L);
        GridVault z = Given.cells(Given.ends(0, 0, 1, 1, -1, 2), 3L, 4L, 5L, 6L);
        Check.node("-1 to 2 in the third", z, z.regrid(0, 2, 2, 0), Given.ends(0, 0, 1, 1, -1, 1), 3L, 9L, 6L);
        GridVault w = Given.cells(Given.ends(3, 5, 0, 1), 1L, 2L, 3L, 4L, 5L, 6L);
        Check.node("3 to 5 in the first", w, w.regrid(0, 0, 2, 0), Given.ends(1, 2, 0, 1), 1L, 2L, 8L, 10L);
        GridVault v = Given.row(-100, 1L, 2L, 3L);
        Check.node("from -100", v, v.regrid(0, 0, 3, 0), Given.ends(-34, -33), 1L, 5L);
    }

    private static void regridOfNone() {
        Check.sentence("Terms: TAKING TOGETHER of none: empty: regrid");
        GridVault x = Given.row(0, null, null, 0L, null);
        for (int what = 0; what < 4; what++) {
            Long of = what == 1 ? 1L : 0L;
            Check.node("what " + what, x, x.regrid(0, 0, 2, what), Given.ends(0, 1), null, of);
        }
    }

    private static void windowOfOthers() {
        Check.sentence("promise 19: IllegalArgumentException: r is not 0..40");
        int[] others = {DEEP, -2, -1, 41, 42, FAR};
        for (int r : others) {
            refused("r is " + r, x -> x.window(0, 0, r, 0));
            refused("r is " + r + " in the second", x -> x.window(0, 1, r, 0));
        }
        Check.sentence("promise 19: IllegalArgumentException: what is not as said: 0..3");
        int[] whats = {DEEP, -1, 4, 5, FAR};
        for (int what : whats) {
            refused("what is " + what, x -> x.window(0, 0, 1, what));
        }
        GridVault x = Given.row(0, 5L, -3L);
        long[] want = {2, 2, -3, 5};
        for (int what = 0; what < 4; what++) {
            Check.node("what is " + what, x, x.window(0, 0, 1, what), Given.ends(0, 1), want[what], want[what]);
        }
    }

    private static void windowOfTheLeastAndTheMost() {
        Check.sentence("promise 19: r is 0, and 40");
        GridVault x = Given.row(-2, 5L, null, 7L);
        Check.node("r is 0", x, x.window(0, 0, 0, 0), Given.ends(-2, 0), 5L, null, 7L);
        Check.node("r is 40", x, x.window(0, 0, 40, 0), Given.ends(-2, 0), 12L, 12L, 12L);
        int wide = x.extend(x.sub(0, 0, -2, -2), 0, -2, 37);
        Check.due("r is 38 over 40 places", x.shape(x.window(wide, 0, 38, 0), 8), 39);
        Check.due("r is 39 over 40 places", x.shape(x.window(wide, 0, 39, 0), 8), 40);
        Check.due("r is 40 over 40 places", x.shape(x.window(wide, 0, 40, 0), 8), 40);
    }

    private static void windowAtTheEnds() {
        Check.sentence("Terms: window: from r before it to r behind it, what is in the SHAPE");
        GridVault x = Given.row(-2, 1L, 10L, 100L, 1000L, 10000L);
        int[] ends = Given.ends(-2, 2);
        Check.node("r is 1", x, x.window(0, 0, 1, 0), ends, 11L, 111L, 1110L, 11100L, 11000L);
        Check.node("r is 2", x, x.window(0, 0, 2, 0), ends, 111L, 1111L, 11111L, 11110L, 11100L);
        Check.node("r is 3", x, x.window(0, 0, 3, 1), ends, 4L, 5L, 5L, 5L, 4L);
        Check.node("r is 4", x, x.window(0, 0, 4, 2), ends, 1L, 1L, 1L, 1L, 1L);
        int part = x.sub(0, 0, -1, 1);
        Check.node("not what is beyond the source", x, x.window(part, 0, 1, 0), Given.ends(-1, 1), 110L, 1110L, 1100L);
        GridVault y = Given.cells(Given.ends(0, 1, 0, 1), 1L, 10L, 100L, 1000L);
        Check.node("along the first", y, y.window(0, 0, 1, 0), Given.ends(0, 1, 0, 1), 101L, 1010L, 101L, 1010L);
        Check.node("along the second", y, y.window(0, 1, 1, 0), Given.ends(0, 1, 0, 1), 11L, 11L, 1100L, 1100L);
        GridVault z = box();
        Check.node("along the third", z, z.window(0, 2, 1, 0), Given.ends(-1, 0, 0, 1, 4, 5), 3L, 3L, 7L, 7L, 5L, 5L,
                15L, 15L);
    }

    private static void windowOfNone() {
        Check.sentence("Terms: TAKING TOGETHER of none: empty: window");
        GridVault x = Given.row(0, 0L, null, null, null);
        for (int what = 0; what < 4; what++) {
            Long of = what == 1 ? 1L : 0L;
            Check.node("what " + what, x, x.window(0, 0, 1, what), Given.ends(0, 3), of, of, null, null);
        }
    }

    private static void togetherOfOneAndMany() {
        Check.sentence("Terms: the least, the greatest: of one sign, and of the least and the greatest number");
        GridVault x = Given.cells(Given.ends(0, 3, 0, 1), -5L, -3L, 3L, 5L, LEAST, GREATEST, 8L, null);
        Check.node("the least", x, x.gather(0, 1, 2), Given.ends(0, 3), -5L, 3L, LEAST, 8L);
        Check.node("the greatest", x, x.gather(0, 1, 3), Given.ends(0, 3), -3L, 5L, GREATEST, 8L);
        Check.node("how many", x, x.gather(0, 1, 1), Given.ends(0, 3), 2L, 2L, 2L, 1L);
    }

    private static void sumsWrap() {
        Check.sentence("Terms: + wraps: the sum of gather, regrid and window");
        GridVault x = Given.cells(Given.ends(0, 1, 0, 1), GREATEST, 1L, LEAST, -1L);
        Check.node("gather", x, x.gather(0, 1, 0), Given.ends(0, 1), LEAST, GREATEST);
        Check.node("regrid", x, x.regrid(0, 1, 2, 0), Given.ends(0, 1, 0, 0), LEAST, GREATEST);
        Check.node("window", x, x.window(0, 1, 1, 0), Given.ends(0, 1, 0, 1), LEAST, LEAST, GREATEST, GREATEST);
    }

    private static void swapOfTheSame() {
        Check.sentence("promise 20: d and e may be the same");
        GridVault x = box();
        for (int d = 0; d < 3; d++) {
            int made = x.swap(0, d, d);
            Check.node("swap of " + d, x, made, Given.ends(-1, 0, 0, 1, 4, 5), 1L, 2L, 3L, 4L, 5L, null, 7L, 8L);
            Check.due("its depth", x.shape(made, 1), 2);
        }
        GridVault row = Given.row(4, 1L, null);
        Check.node("swap of the only one", row, row.swap(0, 0, 0), Given.ends(4, 5), 1L, null);
        Check.sentence("Terms: swap: DIMENSIONS d and e change places: the first and the last");
        Check.node("0 and 2", x, x.swap(0, 0, 2), Given.ends(4, 5, 0, 1, -1, 0), 1L, 5L, 3L, 7L, 2L, null, 4L, 8L);
        Check.node("2 and 0", x, x.swap(0, 2, 0), Given.ends(4, 5, 0, 1, -1, 0), 1L, 5L, 3L, 7L, 2L, null, 4L, 8L);
        Check.node("0 and 1", x, x.swap(0, 0, 1), Given.ends(0, 1, -1, 0, 4, 5), 1L, 2L, 5L, null, 3L, 4L, 7L, 8L);
        Check.node("1 and 2", x, x.swap(0, 1, 2), Given.ends(-1, 0, 4, 5, 0, 1), 1L, 3L, 2L, 4L, 5L, 7L, null, 8L);
    }

    private static void productOfOtherDimensions() {
        Check.sentence("Terms: product of a and b, of 2 DIMENSIONS each");
        for (int i = 0; i < 9; i++) {
            GridVault x = threeTwoOne();
            int a = i / 3;
            int b = i % 3;
            if (a == 1 && b == 1) {
                Check.due("product of two and two", x.shape(x.product(a, b), 0), 2);
            } else {
                Check.throwing("product of " + (3 - a) + " and " + (3 - b), Check.ARGUMENT, () -> x.product(a, b));
            }
        }
        Check.refused("product of one", Check.ARGUMENT, () -> Given.nodes(2), y -> y.product(1, 0));
        Check.refused("product by one", Check.ARGUMENT, () -> Given.nodes(2), y -> y.product(0, 1));
        Check.refused("product of three", Check.ARGUMENT, () -> Given.ones(3), y -> y.product(0, 0));
    }

    private static void productOfNoPlace() {
        Check.sentence("Terms: product: over those k that both have; empty if there are none");
        GridVault x = Given.cells(Given.ends(0, 1, 2, 3), 1L, 2L, 3L, 4L);
        Check.node("no k at all", x, x.product(0, 0), Given.ends(0, 1, 2, 3), null, null, null, null);
    }

    private static void productOfOnePlace() {
        Check.sentence("Terms: product: just one k, at the end of both");
        GridVault x = Given.cells(Given.ends(0, 1, 1, 2), 1L, 2L, 3L, 4L);
        Check.node("k is 1", x, x.product(0, 0), Given.ends(0, 1, 1, 2), 3L, 4L, 9L, 12L);
        GridVault y = Given.cells(Given.ends(2, 3, 1, 2), 1L, 2L, 3L, 4L);
        Check.node("k is 2", y, y.product(0, 0), Given.ends(2, 3, 1, 2), 2L, 4L, 4L, 8L);
        int column = y.sub(0, 1, 2, 2);
        int row = y.sub(0, 0, 2, 2);
        Check.node("a column by a row", y, y.product(column, row), Given.ends(2, 3, 1, 2), 2L, 4L, 4L, 8L);
    }

    private static void productOfEmptyCells() {
        Check.sentence("Terms: product: where both are not empty; empty if there are none, but 0 is a sum");
        GridVault x = Given.cells(Given.ends(0, 1, 0, 1), 2L, null, null, 3L);
        int[] ends = Given.ends(0, 1, 0, 1);
        int b = Given.more(x, ends, 5L, null, 0L, null);
        Check.node("a by b", x, x.product(0, b), ends, 10L, null, 0L, null);
        Check.node("b by a", x, x.product(b, 0), ends, 10L, null, 0L, null);
        Check.node("by itself", x, x.product(0, 0), ends, 4L, null, null, 9L);
        int none = x.filter(0, 3, 100);
        Check.node("by all empty", x, x.product(0, none), ends, null, null, null, null);
        int c = Given.more(x, ends, 1L, null, -1L, null);
        int ones = Given.more(x, ends, 1L, 1L, 1L, 1L);
        Check.node("a sum of 0", x, x.product(ones, c), ends, 0L, null, 0L, null);
    }

    private static void productWraps() {
        Check.sentence("Terms: + and * wrap: product");
        GridVault x = Given.cells(Given.ends(0, 1, 0, 1), GREATEST, 1L, 1L << 32, 0L);
        int[] ends = Given.ends(0, 1, 0, 1);
        int b = Given.more(x, ends, 1L, 1L << 32, 1L, 2L);
        Check.node("a by b", x, x.product(0, b), ends, LEAST, 2 - (1L << 32), 1L << 32, 0L);
    }
}

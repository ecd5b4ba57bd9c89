import java.util.function.IntUnaryOperator;

/** What all of promises 10 to 21 share: 150 nodes, 2048 cells, 40 places, a depth of 40, and what is looked at first. */
public final class LimitTest {
    public static void main(String[] args) {
        roomIsLookedAtFirst();
        depthIsLookedAtLast();
        largeVersions();
        longShapes();
        longInTheThird();
        largeShapes();
        Check.end();
    }

    /** Every operator on node a of two dimensions; those of two sources take it twice. */
    private static IntUnaryOperator[] operators(GridVault x) {
        return new IntUnaryOperator[] {
            a -> x.sub(a, 0, 0, 0), a -> x.slice(a, 0, 0), a -> x.extend(a, 0, 0, 1), a -> x.apply(a, 0, 1),
            a -> x.filter(a, 0, 1), a -> x.join(a, a, 0), a -> x.gather(a, 0, 0), a -> x.regrid(a, 0, 1, 0),
            a -> x.window(a, 0, 1, 0), a -> x.swap(a, 0, 1), a -> x.product(a, a)};
    }

    private static GridVault square() {
        GridVault x = new GridVault();
        x.begin(2, 0, 1, 0, 1, 0, 0);
        x.fill(0, 0, 1, 1);
        x.commit();
        return x;
    }

    private static void roomIsLookedAtFirst() {
        GridVault x = square();
        for (int i = 0; i < 150; i++) {
            Check.due("read " + i, x.read(1), i);
        }
        Check.throwing("a 151st read", Check.INDEX, () -> x.read(1));
        Check.throwing("a 151st read, wrong too", Check.INDEX, () -> x.read(9));
        IntUnaryOperator[] all = operators(x);
        for (int i = 0; i < all.length; i++) {
            IntUnaryOperator op = all[i];
            Check.throwing("a 151st node, " + i, Check.INDEX, () -> op.applyAsInt(0));
            Check.throwing("a 151st node, wrong too, " + i, Check.INDEX, () -> op.applyAsInt(-1));
        }
        Check.due("150 nodes", x.count(1), 150);
        x.begin(2, 0, 1, 0, 1, 0, 0);
        Check.due("read after begin", x.read(0), 0);
    }

    private static void depthIsLookedAtLast() {
        GridVault x = square();
        int deep = x.read(1);
        for (int depth = 2; depth <= 40; depth++) {
            deep = x.window(deep, depth % 2, 1, 0);
            Check.due("depth", x.shape(deep, 1), depth);
        }
        int deepest = deep;
        int nodes = x.count(1);
        IntUnaryOperator[] all = operators(x);
        for (int i = 0; i < all.length; i++) {
            IntUnaryOperator op = all[i];
            Check.throwing("a depth of 41, " + i, Check.UNSUPPORTED, () -> op.applyAsInt(deepest));
            Check.due("depth of operator " + i, x.shape(op.applyAsInt(deepest - 1), 1), 40);
        }
        Check.throwing("join, second is deep", Check.UNSUPPORTED, () -> x.join(0, deepest, 0));
        Check.throwing("join, first is deep", Check.UNSUPPORTED, () -> x.join(deepest, 0, 0));
        Check.throwing("product, second is deep", Check.UNSUPPORTED, () -> x.product(0, deepest));
        Check.throwing("product, first is deep", Check.UNSUPPORTED, () -> x.product(deepest, 0));
        Check.throwing("deep and wrong: sub", Check.ARGUMENT, () -> x.sub(deepest, 0, 1, 0));
        Check.throwing("deep and wrong: slice", Check.ARGUMENT, () -> x.slice(deepest, 0, 2));
        Check.throwing("deep and wrong: extend", Check.ARGUMENT, () -> x.extend(deepest, 0, 0, 0));
        Check.throwing("deep and wrong: apply", Check.ARGUMENT, () -> x.apply(deepest, 6, 0));
        Check.throwing("deep and wrong: filter", Check.ARGUMENT, () -> x.filter(deepest, 4, 0));
        Check.throwing("deep and wrong: join", Check.ARGUMENT, () -> x.join(deepest, 0, 6));
        Check.throwing("deep and wrong: gather", Check.ARGUMENT, () -> x.gather(deepest, 0, 4));
        Check.throwing("deep and wrong: regrid", Check.ARGUMENT, () -> x.regrid(deepest, 0, 0, 0));
        Check.throwing("deep and wrong: window", Check.ARGUMENT, () -> x.window(deepest, 0, 41, 0));
        Check.throwing("deep and wrong: swap", Check.ARGUMENT, () -> x.swap(deepest, 0, 2));
        Check.throwing("deep and wrong: product", Check.ARGUMENT, () -> x.product(deepest, -1));
        Check.due("nothing else was made", x.count(1), nodes + all.length);
        Check.due("a sum of 39 windows", x.cell(deepest, 0, 0, 0), 1L << 39);
    }

    private static void largeVersions() {
        GridVault x = new GridVault();
        x.begin(3, 0, 15, 0, 15, 0, 15);
        x.fill(0, 0, 15, 1);
        x.commit();
        int a = x.read(1);
        Check.due("4096 cells of a version", x.shape(a, 8), 4096);
        Check.due("all of them", x.all(a, 0), 4096);
        Check.throwing("sub of 2304", Check.UNSUPPORTED, () -> x.sub(a, 0, 0, 8));
        Check.due("sub of 2048", x.shape(x.sub(a, 0, 0, 7), 8), 2048);
        Check.throwing("extend of 4096", Check.UNSUPPORTED, () -> x.extend(a, 0, 0, 15));
        Check.throwing("apply of 4096", Check.UNSUPPORTED, () -> x.apply(a, 0, 0));
        Check.throwing("filter of 4096", Check.UNSUPPORTED, () -> x.filter(a, 0, 0));
        Check.throwing("join of 4096", Check.UNSUPPORTED, () -> x.join(a, a, 0));
        Check.throwing("regrid of 4096", Check.UNSUPPORTED, () -> x.regrid(a, 0, 1, 0));
        Check.throwing("window of 4096", Check.UNSUPPORTED, () -> x.window(a, 0, 1, 0));
        Check.throwing("swap of 4096", Check.UNSUPPORTED, () -> x.swap(a, 0, 1));
        Check.throwing("large and wrong", Check.ARGUMENT, () -> x.apply(a, 6, 0));
        Check.due("regrid to 2048", x.all(x.regrid(a, 1, 2, 0), 1), 2048);
        Check.due("slice of 256", x.all(x.slice(a, 2, 9), 1), 256);
        Check.due("gather to 256", x.all(x.gather(a, 0, 0), 0), 4096);
        Check.due("join with a part", x.all(x.join(a, 1, 0), 0), 4096);
    }

    private static void longShapes() {
        GridVault x = square();
        int a = x.read(1);
        Check.throwing("41 places before", Check.UNSUPPORTED, () -> x.extend(a, 0, -39, 1));
        Check.throwing("41 places behind", Check.UNSUPPORTED, () -> x.extend(a, 1, 0, 40));
        int wide = x.extend(a, 1, 0, 39);
        int tall = x.extend(a, 0, -38, 1);
        Check.due("40 places", x.shape(wide, 5), 39);
        int square = x.product(x.swap(wide, 0, 1), wide);
        Check.due("1600 cells", x.shape(square, 8), 4);
        Check.due("40 by 40", x.shape(x.extend(tall, 1, 0, 39), 8), 4);
        Check.due("long window", x.all(x.window(wide, 1, 40, 1), 1), 80);
    }

    private static void longInTheThird() {
        GridVault x = new GridVault();
        x.begin(3, 0, 1, 0, 1, 0, 1);
        int a = x.read(0);
        for (int d = 0; d < 3; d++) {
            int e = d;
            Check.throwing("41 places in " + d, Check.UNSUPPORTED, () -> x.extend(a, e, 0, 40));
            Check.due("40 places in " + d, x.shape(x.extend(a, d, 0, 39), 3 + 2 * d), 39);
        }
    }

    private static void largeShapes() {
        GridVault x = new GridVault();
        x.begin(3, 0, 15, 0, 7, 0, 1);
        x.commit();
        int a = x.read(1);
        Check.due("2048 cells", x.shape(x.extend(a, 2, -14, 1), 6), -14);
        Check.throwing("2176 cells", Check.UNSUPPORTED, () -> x.extend(a, 2, -15, 1));
        Check.due("1920 cells", x.shape(x.extend(a, 1, 0, 39), 5), 39);
        Check.throwing("2560 cells", Check.UNSUPPORTED, () -> x.extend(1, 0, 0, 19));
    }
}

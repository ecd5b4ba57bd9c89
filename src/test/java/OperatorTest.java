/** Promises 10 to 21: what each operator makes, and its wrong inputs. */
public final class OperatorTest {
    private static final int FAR = Integer.MAX_VALUE;
    private static final int DEEP = Integer.MIN_VALUE;

    public static void main(String[] args) {
        reading();
        subs();
        slices();
        extending();
        applying();
        filtering();
        joining();
        gathering();
        regridding();
        windows();
        swapping();
        products();
        Check.end();
    }

    /** Node 0 is 3 by 4, from (-1, 2) to (1, 5); cell (x, y) is 10 x + y, but (0, 3) is empty. */
    private static GridVault flat() {
        GridVault x = new GridVault();
        x.begin(2, -1, 1, 2, 5, 0, 0);
        for (int i = -1; i <= 1; i++) {
            for (int j = 2; j <= 5; j++) {
                x.put(i, j, 0, 10L * i + j);
            }
        }
        x.erase(0, 3, 0);
        x.commit();
        x.read(1);
        return x;
    }

    /** Node 0 is 2 by 3 by 4 from 0; cell (x, y, z) is 100 x + 10 y + z. */
    private static GridVault cube() {
        GridVault x = new GridVault();
        x.begin(3, 0, 1, 0, 2, 0, 3);
        for (int i = 0; i < 24; i++) {
            x.put(i / 12, i / 4 % 3, i % 4, 100L * (i / 12) + 10L * (i / 4 % 3) + i % 4);
        }
        x.commit();
        x.read(1);
        return x;
    }

    /** Node 0 is the row of the numbers, from a low. */
    private static GridVault row(int low, long... numbers) {
        GridVault x = new GridVault();
        x.begin(1, low, low + numbers.length - 1, 0, 0, 0, 0);
        for (int i = 0; i < numbers.length; i++) {
            x.put(low + i, 0, 0, numbers[i]);
        }
        x.commit();
        x.read(1);
        return x;
    }

    private static void shape(String name, GridVault x, int node, int... want) {
        Check.due(name + ": dimensions", x.shape(node, 0), want.length / 2);
        for (int i = 0; i < 6; i++) {
            Check.due(name + ": shape " + (i + 2), x.shape(node, i + 2), i < want.length ? want[i] : 0);
        }
    }

    private static void empty(String name, GridVault x, int node, int a, int b, int c) {
        Check.throwing(name, Check.UNSUPPORTED, () -> x.cell(node, a, b, c));
    }

    private static void wrong(String name, Check.Call call) {
        Check.throwing(name, Check.ARGUMENT, call);
    }

    private static void wrongNodes(String name, GridVault x, java.util.function.IntConsumer call) {
        int[] none = {-1, x.count(1), FAR, DEEP};
        for (int node : none) {
            wrong(name + " of node " + node, () -> call.accept(node));
        }
    }

    private static void reading() {
        GridVault x = flat();
        x.put(0, 3, 0, 7);
        Check.due("read of a version", x.read(1), 1);
        Check.due("read of version 0", x.read(0), 2);
        empty("the desk is not read", x, 1, 0, 3, 0);
        x.commit();
        empty("what was read stays", x, 1, 0, 3, 0);
        Check.due("read of a new version", x.cell(x.read(2), 0, 3, 0), 7);
        shape("read", x, 1, -1, 1, 2, 5);
        Check.due("depth of read", x.shape(1, 1), 1);
        Check.due("nothing in version 0", x.shape(2, 8), 0);
        wrong("read(3)", () -> x.read(3));
        wrong("read(-1)", () -> x.read(-1));
        wrong("read far away", () -> x.read(FAR));
        Check.due("nothing was made", x.count(1), 4);
    }

    private static void subs() {
        GridVault x = flat();
        int n = x.sub(0, 1, 3, 4);
        Check.due("sub", n, 1);
        shape("sub", x, n, -1, 1, 3, 4);
        Check.due("sub: depth", x.shape(n, 1), 2);
        Check.due("sub: cell", x.cell(n, -1, 4, 0), -6);
        empty("sub: empty", x, n, 0, 3, 0);
        Check.throwing("sub: none", Check.INDEX, () -> x.cell(n, 0, 5, 0));
        Check.due("sub: filled", x.shape(n, 8), 5);
        shape("sub of all", x, x.sub(0, 0, -1, 1), -1, 1, 2, 5);
        shape("sub of one", x, x.sub(0, 0, 1, 1), 1, 1, 2, 5);
        Check.due("sub of one: cell", x.cell(3, 1, 5, 0), 15);
        wrongNodes("sub", x, node -> x.sub(node, 0, 0, 0));
        wrong("sub: no dimension 2", () -> x.sub(0, 2, 0, 0));
        wrong("sub: no dimension -1", () -> x.sub(0, -1, 0, 0));
        wrong("sub: low above high", () -> x.sub(0, 0, 1, 0));
        wrong("sub: low", () -> x.sub(0, 0, -2, 0));
        wrong("sub: high", () -> x.sub(0, 0, 0, 2));
        wrong("sub: far", () -> x.sub(0, 0, DEEP, FAR));
    }

    private static void slices() {
        GridVault x = cube();
        int[] at = {1, 2, 3};
        int[][] shapes = {{0, 2, 0, 3}, {0, 1, 0, 3}, {0, 1, 0, 2}};
        long[] cells = {112, 121, 113};
        int[][] places = {{1, 2}, {1, 1}, {1, 1}};
        for (int d = 0; d < 3; d++) {
            int n = x.slice(0, d, at[d]);
            shape("slice " + d, x, n, shapes[d]);
            Check.due("slice " + d + ": cell", x.cell(n, places[d][0], places[d][1], FAR), cells[d]);
            Check.due("slice " + d + ": depth", x.shape(n, 1), 2);
        }
        int line = x.slice(1, 1, 3);
        shape("slice of a slice", x, line, 0, 2);
        Check.due("slice of a slice: cell", x.cell(line, 2, FAR, DEEP), 123);
        wrong("slice of one dimension", () -> x.slice(line, 0, 0));
        wrongNodes("slice", x, node -> x.slice(node, 0, 0));
        wrong("slice: no dimension 3", () -> x.slice(0, 3, 0));
        wrong("slice: no dimension -1", () -> x.slice(0, -1, 0));
        wrong("slice: no dimension 2 of two", () -> x.slice(1, 2, 0));
        wrong("slice: no place -1", () -> x.slice(0, 0, -1));
        wrong("slice: no place 2", () -> x.slice(0, 0, 2));
    }

    private static void extending() {
        GridVault x = flat();
        int n = x.extend(0, 0, -3, 2);
        shape("extend", x, n, -3, 2, 2, 5);
        Check.due("extend: depth", x.shape(n, 1), 2);
        Check.due("extend: cell", x.cell(n, -1, 2, 0), -8);
        empty("extend: new", x, n, -2, 2, 0);
        empty("extend: new behind", x, n, 2, 5, 0);
        Check.due("extend: filled", x.shape(n, 8), 11);
        Check.due("extend to what it has", x.shape(x.extend(0, 1, 2, 5), 8), 11);
        wrongNodes("extend", x, node -> x.extend(node, 0, -1, 1));
        wrong("extend: no dimension 2", () -> x.extend(0, 2, 0, 0));
        wrong("extend: no dimension -1", () -> x.extend(0, -1, 0, 0));
        wrong("extend: low", () -> x.extend(0, 0, 0, 1));
        wrong("extend: high", () -> x.extend(0, 0, -1, 0));
        wrong("extend: -1001", () -> x.extend(0, 0, -1001, 1));
        wrong("extend: 1001", () -> x.extend(0, 0, -1, 1001));
        wrong("extend: far", () -> x.extend(0, 0, DEEP, FAR));
        Check.throwing("extend to 1000", Check.UNSUPPORTED, () -> x.extend(0, 0, -1, 1000));
        Check.throwing("extend to -1000", Check.UNSUPPORTED, () -> x.extend(0, 0, -1000, 1));
        Check.throwing("extend to 41", Check.UNSUPPORTED, () -> x.extend(0, 0, -1, 39));
        shape("extend to 40", x, x.extend(0, 0, -1, 38), -1, 38, 2, 5);
    }

    private static void applying() {
        long[] numbers = {7, -7, 0, Long.MIN_VALUE, Long.MAX_VALUE};
        GridVault x = row(-2, numbers);
        long[][] cases = {{0, 1}, {0, Long.MIN_VALUE}, {1, 2}, {1, -1}, {2, 2}, {2, -2}, {2, -1}, {3, 2}, {3, -3},
            {3, -1}, {4, 5}, {4, Long.MIN_VALUE}, {5, 15}, {5, -15}, {5, Long.MIN_VALUE}};
        for (long[] k : cases) {
            int n = x.apply(0, (int) k[0], k[1]);
            shape("apply", x, n, -2, 2);
            Check.due("apply: depth", x.shape(n, 1), 2);
            for (int i = 0; i < numbers.length; i++) {
                String name = "apply(" + k[0] + ", " + k[1] + ") to " + numbers[i];
                if (k[0] == 5 && numbers[i] == 0) {
                    empty(name, x, n, i - 2, 0, 0);
                } else {
                    Check.due(name, x.cell(n, i - 2, 0, 0), applied((int) k[0], numbers[i], k[1]));
                }
            }
        }
        Check.due("-7 / 2 is cut towards 0", x.cell(x.apply(0, 2, 2), -1, 0, 0), -3);
        Check.due("what -7 / 2 leaves", x.cell(x.apply(0, 3, 2), -1, 0, 0), -1);
        Check.due("2 less 7", x.cell(x.apply(0, 4, 2), -2, 0, 0), -5);
        Check.due("15 / -7", x.cell(x.apply(0, 5, 15), -1, 0, 0), -2);
        Check.due("/ 0", x.shape(x.apply(0, 2, 0), 8), 0);
        Check.due("what / 0 leaves", x.shape(x.apply(0, 3, 0), 8), 0);
        Check.due("0 / it", x.shape(x.apply(0, 5, 0), 8), 4);
        wrongNodes("apply", x, node -> x.apply(node, 0, 0));
        wrong("apply: op 6", () -> x.apply(0, 6, 1));
        wrong("apply: op -1", () -> x.apply(0, -1, 1));
        GridVault flat = flat();
        Check.due("an empty cell stays so", flat.shape(flat.apply(0, 0, 1), 8), 11);
    }

    private static long applied(int op, long v, long c) {
        java.math.BigInteger a = java.math.BigInteger.valueOf(v);
        java.math.BigInteger b = java.math.BigInteger.valueOf(c);
        switch (op) {
            case 0: return a.add(b).longValue();
            case 1: return a.multiply(b).longValue();
            case 2: return a.divide(b).longValue();
            case 3: return a.remainder(b).longValue();
            case 4: return b.subtract(a).longValue();
            default: return b.divide(a).longValue();
        }
    }

    private static void filtering() {
        GridVault x = row(0, -5, 3, 3, 9, Long.MIN_VALUE);
        int[] many = {2, 3, 2, 3};
        boolean[][] remain = {{false, true, true, false, false}, {true, false, false, true, true},
            {true, false, false, false, true}, {false, true, true, true, false}};
        long[] numbers = {-5, 3, 3, 9, Long.MIN_VALUE};
        for (int relation = 0; relation < 4; relation++) {
            int n = x.filter(0, relation, 3);
            shape("filter", x, n, 0, 4);
            Check.due("filter " + relation + ": filled", x.shape(n, 8), many[relation]);
            for (int i = 0; i < 5; i++) {
                if (remain[relation][i]) {
                    Check.due("filter " + relation + ": cell " + i, x.cell(n, i, 0, 0), numbers[i]);
                } else {
                    empty("filter " + relation + ": cell " + i, x, n, i, 0, 0);
                }
            }
        }
        Check.due("filter: depth", x.shape(1, 1), 2);
        GridVault flat = flat();
        Check.due("an empty cell is not = 7", flat.shape(flat.filter(0, 1, 7), 8), 11);
        wrongNodes("filter", x, node -> x.filter(node, 0, 0));
        wrong("filter: relation 4", () -> x.filter(0, 4, 1));
        wrong("filter: relation -1", () -> x.filter(0, -1, 1));
    }

    private static void joining() {
        GridVault x = flat();
        int right = x.apply(x.sub(x.extend(0, 0, -1, 4), 0, 0, 4), 4, 12);
        long[] want = {12, 18, 15 * -3, -3, 15, 15};
        for (int op = 0; op < 6; op++) {
            int n = x.join(0, right, op);
            shape("join " + op, x, n, 0, 1, 2, 5);
            Check.due("join " + op + ": depth", x.shape(n, 1), 5);
            Check.due("join " + op + ": cell", x.cell(n, 1, 5, 0), want[op]);
            empty("join " + op + ": both are empty", x, n, 0, 3, 0);
            Check.due("join " + op + ": filled", x.shape(n, 8), 7);
        }
        Check.due("join, turned", x.cell(x.join(right, 0, 1), 1, 5, 0), -18);
        Check.due("that of a, turned", x.cell(x.join(right, 0, 5), 1, 5, 0), -3);
        int less = x.filter(0, 3, 12);
        Check.due("one of them is empty", x.shape(x.join(0, less, 0), 8), 4);
        Check.due("one of them is empty, turned", x.shape(x.join(less, 0, 5), 8), 4);
        int one = x.slice(0, 0, 0);
        wrong("join of other dimensions", () -> x.join(0, one, 0));
        wrong("join of other dimensions, turned", () -> x.join(one, 0, 0));
        int low = x.sub(0, 1, 2, 3);
        int high = x.sub(0, 1, 4, 5);
        wrong("join of no common place", () -> x.join(low, high, 0));
        wrong("join of no common place, turned", () -> x.join(high, low, 0));
        wrongNodes("join", x, node -> x.join(node, 0, 0));
        wrongNodes("join, second", x, node -> x.join(0, node, 0));
        wrong("join: op 6", () -> x.join(0, 0, 6));
        wrong("join: op -1", () -> x.join(0, 0, -1));
    }

    private static void gathering() {
        GridVault x = flat();
        for (int what = 0; what < 4; what++) {
            int n = x.gather(0, 1, what);
            shape("gather", x, n, -1, 1);
            Check.due("gather: depth", x.shape(n, 1), 2);
            long[] first = {-8 - 7 - 6 - 5, 4, -8, -5};
            long[] second = {2 + 4 + 5, 3, 2, 5};
            Check.due("gather " + what + " of -1", x.cell(n, -1, 0, 0), first[what]);
            Check.due("gather " + what + " of 0", x.cell(n, 0, 0, 0), second[what]);
        }
        int down = x.gather(0, 0, 0);
        shape("gather of the first", x, down, 2, 5);
        Check.due("gather of the first: cell", x.cell(down, 3, 0, 0), -7 + 13);
        int none = x.filter(0, 3, 100);
        for (int what = 0; what < 4; what++) {
            Check.due("gather " + what + " of none", x.shape(x.gather(none, 0, what), 8), 0);
        }
        GridVault cube = cube();
        int middle = cube.gather(0, 1, 3);
        shape("gather of the middle", cube, middle, 0, 1, 0, 3);
        Check.due("gather of the middle: cell", cube.cell(middle, 1, 3, 0), 123);
        Check.due("gather of the last: cell", cube.cell(cube.gather(0, 2, 0), 1, 2, 0), 4 * 120 + 6);
        Check.due("gather of the first: cell", cube.cell(cube.gather(0, 0, 2), 2, 3, 0), 23);
        wrong("gather of one dimension", () -> x.gather(down, 0, 0));
        wrongNodes("gather", x, node -> x.gather(node, 0, 0));
        wrong("gather: no dimension 2", () -> x.gather(0, 2, 0));
        wrong("gather: no dimension -1", () -> x.gather(0, -1, 0));
        wrong("gather: what 4", () -> x.gather(0, 0, 4));
        wrong("gather: what -1", () -> x.gather(0, 0, -1));
    }

    private static void regridding() {
        GridVault x = row(-7, 1, 2, 3, 4, 5, 6, 7, 8, 9, 10);
        int n = x.regrid(0, 0, 3, 0);
        shape("regrid", x, n, -3, 0);
        Check.due("regrid: depth", x.shape(n, 1), 2);
        Check.due("regrid: -9..-7", x.cell(n, -3, 0, 0), 1);
        Check.due("regrid: -6..-4", x.cell(n, -2, 0, 0), 2 + 3 + 4);
        Check.due("regrid: -3..-1", x.cell(n, -1, 0, 0), 5 + 6 + 7);
        Check.due("regrid: 0..2", x.cell(n, 0, 0, 0), 8 + 9 + 10);
        Check.due("regrid: how many", x.cell(x.regrid(0, 0, 3, 1), -3, 0, 0), 1);
        Check.due("regrid: least", x.cell(x.regrid(0, 0, 3, 2), -2, 0, 0), 2);
        Check.due("regrid: greatest", x.cell(x.regrid(0, 0, 3, 3), -2, 0, 0), 4);
        shape("regrid by 1", x, x.regrid(0, 0, 1, 0), -7, 2);
        int wide = x.regrid(0, 0, 40, 0);
        shape("regrid by 40", x, wide, -1, 0);
        Check.due("regrid by 40: cell", x.cell(wide, -1, 0, 0), 28);
        int gap = x.filter(0, 3, 5);
        empty("regrid: none", x, x.regrid(gap, 0, 3, 1), -2, 0, 0);
        GridVault cube = cube();
        int middle = cube.regrid(0, 1, 2, 0);
        shape("regrid of the middle", cube, middle, 0, 1, 0, 1, 0, 3);
        Check.due("regrid of the middle: cell", cube.cell(middle, 1, 0, 3), 103 + 113);
        wrongNodes("regrid", x, node -> x.regrid(node, 0, 1, 0));
        wrong("regrid: no dimension 1", () -> x.regrid(0, 1, 1, 0));
        wrong("regrid: no dimension -1", () -> x.regrid(0, -1, 1, 0));
        wrong("regrid: k 0", () -> x.regrid(0, 0, 0, 0));
        wrong("regrid: k 41", () -> x.regrid(0, 0, 41, 0));
        wrong("regrid: k -1", () -> x.regrid(0, 0, -1, 0));
        wrong("regrid: what 4", () -> x.regrid(0, 0, 1, 4));
        wrong("regrid: what -1", () -> x.regrid(0, 0, 1, -1));
    }

    private static void windows() {
        GridVault x = flat();
        int n = x.window(0, 1, 1, 0);
        shape("window", x, n, -1, 1, 2, 5);
        Check.due("window: depth", x.shape(n, 1), 2);
        Check.due("window at the low end", x.cell(n, -1, 2, 0), -8 - 7);
        Check.due("window within", x.cell(n, -1, 3, 0), -8 - 7 - 6);
        Check.due("window at the high end", x.cell(n, -1, 5, 0), -6 - 5);
        Check.due("window round an empty cell", x.cell(n, 0, 3, 0), 2 + 4);
        Check.due("window: how many", x.cell(x.window(0, 1, 1, 1), 0, 3, 0), 2);
        Check.due("window: least", x.cell(x.window(0, 0, 1, 2), 0, 3, 0), -7);
        Check.due("window: greatest", x.cell(x.window(0, 0, 1, 3), 0, 3, 0), 13);
        Check.due("window of 40", x.cell(x.window(0, 1, 40, 0), 1, 2, 0), 12 + 13 + 14 + 15);
        int same = x.window(0, 0, 0, 0);
        Check.due("window of 0", x.cell(same, 1, 4, 0), 14);
        empty("window of 0, empty", x, same, 0, 3, 0);
        empty("window of 0, how many", x, x.window(0, 0, 0, 1), 0, 3, 0);
        wrongNodes("window", x, node -> x.window(node, 0, 1, 0));
        wrong("window: no dimension 2", () -> x.window(0, 2, 1, 0));
        wrong("window: no dimension -1", () -> x.window(0, -1, 1, 0));
        wrong("window: r -1", () -> x.window(0, 0, -1, 0));
        wrong("window: r 41", () -> x.window(0, 0, 41, 0));
        wrong("window: what 4", () -> x.window(0, 0, 1, 4));
        wrong("window: what -1", () -> x.window(0, 0, 1, -1));
    }

    private static void swapping() {
        GridVault x = cube();
        int n = x.swap(0, 0, 2);
        shape("swap", x, n, 0, 3, 0, 2, 0, 1);
        Check.due("swap: depth", x.shape(n, 1), 2);
        Check.due("swap: cell", x.cell(n, 3, 2, 1), 123);
        Check.due("swap, turned", x.cell(x.swap(0, 2, 0), 3, 2, 1), 123);
        Check.due("swap of neighbours", x.cell(x.swap(0, 1, 2), 1, 3, 2), 123);
        int same = x.swap(0, 1, 1);
        shape("swap of the same", x, same, 0, 1, 0, 2, 0, 3);
        Check.due("swap of the same: depth", x.shape(same, 1), 2);
        Check.due("swap of the same: cell", x.cell(same, 1, 2, 3), 123);
        wrongNodes("swap", x, node -> x.swap(node, 0, 0));
        wrong("swap: no dimension 3", () -> x.swap(0, 0, 3));
        wrong("swap: no dimension 3, first", () -> x.swap(0, 3, 0));
        wrong("swap: no dimension -1", () -> x.swap(0, 0, -1));
        wrong("swap: no dimension -1, first", () -> x.swap(0, -1, 0));
        int flat = x.slice(0, 0, 0);
        wrong("swap: no dimension 2 of two", () -> x.swap(flat, 2, 2));
    }

    private static void products() {
        GridVault x = new GridVault();
        x.begin(2, 0, 1, 2, 4, 0, 0);
        for (int i = 0; i < 6; i++) {
            x.put(i / 3, 2 + i % 3, 0, i + 1);
        }
        x.commit();
        int a = x.read(1);
        int b = x.swap(a, 0, 1);
        int n = x.product(a, b);
        shape("product", x, n, 0, 1, 0, 1);
        Check.due("product: depth", x.shape(n, 1), 3);
        Check.due("product 0, 0", x.cell(n, 0, 0, 0), 1 + 4 + 9);
        Check.due("product 0, 1", x.cell(n, 0, 1, 0), 4 + 10 + 18);
        Check.due("product 1, 1", x.cell(n, 1, 1, 0), 16 + 25 + 36);
        int turned = x.product(b, a);
        shape("product, turned", x, turned, 2, 4, 2, 4);
        Check.due("product, turned: cell", x.cell(turned, 2, 4, 0), 1 * 3 + 4 * 6);
        int some = x.sub(b, 0, 3, 4);
        Check.due("places that both have", x.cell(x.product(a, some), 0, 0, 0), 4 + 9);
        int apart = x.product(a, a);
        shape("product of no common place but 0 and 1", x, apart, 0, 1, 2, 4);
        Check.due("it is empty", x.shape(apart, 8), 0);
        int left = x.filter(a, 2, 3);
        int right = x.filter(b, 3, 2);
        int thin = x.product(left, right);
        Check.due("where both are not empty", x.cell(thin, 0, 0, 0), 4);
        empty("where there are none", x, thin, 1, 0, 0);
        int line = x.slice(a, 0, 0);
        wrong("product of one dimension", () -> x.product(line, a));
        wrong("product by one dimension", () -> x.product(a, line));
        wrongNodes("product", x, node -> x.product(node, 0));
        wrongNodes("product, second", x, node -> x.product(0, node));
        GridVault cube = cube();
        int plane = cube.slice(0, 0, 0);
        wrong("product of three dimensions", () -> cube.product(0, plane));
        wrong("product by three dimensions", () -> cube.product(plane, 0));
        Check.due("1 by 1 would wrap", wrapping(), (1L << 62) * 4 + 1);
    }

    private static long wrapping() {
        GridVault x = new GridVault();
        x.begin(2, 0, 0, 0, 1, 0, 0);
        x.put(0, 0, 0, 1L << 62);
        x.put(0, 1, 0, 1);
        x.commit();
        int a = x.read(1);
        int b = x.apply(x.swap(a, 0, 1), 1, 1);
        return x.cell(x.product(a, b), 0, 0, 0);
    }
}

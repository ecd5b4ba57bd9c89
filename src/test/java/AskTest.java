/** Promises 22, 23 and 24. */
public final class AskTest {
    public static void main(String[] args) {
        shapes();
        cells();
        together();
        Check.end();
    }

    private static GridVault cube() {
        GridVault x = new GridVault();
        x.begin(3, -1, 0, 5, 6, 7, 9);
        x.put(-1, 5, 7, 40);
        x.put(-1, 6, 9, -3);
        x.put(0, 6, 9, 0);
        x.commit();
        x.read(1);
        x.read(0);
        return x;
    }

    private static void wrongNodes(String name, java.util.function.IntConsumer call) {
        int[] none = {-1, 2, Integer.MAX_VALUE, Integer.MIN_VALUE};
        for (int node : none) {
            Check.throwing(name + " of node " + node, Check.ARGUMENT, () -> call.accept(node));
        }
    }

    private static void shapes() {
        GridVault x = cube();
        int[] want = {3, 1, -1, 0, 5, 6, 7, 9, 3};
        for (int what = 0; what < want.length; what++) {
            Check.due("shape(0, " + what + ")", x.shape(0, what), want[what]);
        }
        Check.due("shape(1, 8)", x.shape(1, 8), 0);
        wrongNodes("shape", node -> x.shape(node, 0));
        Check.throwing("shape(0, -1)", Check.ARGUMENT, () -> x.shape(0, -1));
        Check.throwing("shape(0, 9)", Check.ARGUMENT, () -> x.shape(0, 9));
        Check.throwing("shape far away", Check.ARGUMENT, () -> x.shape(0, Integer.MIN_VALUE));
    }

    private static void cells() {
        GridVault x = cube();
        Check.due("the first cell", x.cell(0, -1, 5, 7), 40);
        Check.due("the last cell", x.cell(0, 0, 6, 9), 0);
        Check.throwing("an empty cell", Check.UNSUPPORTED, () -> x.cell(0, 0, 5, 7));
        wrongNodes("cell", node -> x.cell(node, -1, 5, 7));
        wrongNodes("cell outside", node -> x.cell(node, 99, 5, 7));
        int[][] none = {{-2, 5, 7}, {1, 5, 7}, {0, 4, 7}, {0, 7, 7}, {0, 5, 6}, {0, 5, 10},
            {Integer.MIN_VALUE, 5, 7}, {0, Integer.MAX_VALUE, 7}, {0, 5, Integer.MAX_VALUE}};
        for (int[] n : none) {
            Check.throwing("cell where none is", Check.INDEX, () -> x.cell(0, n[0], n[1], n[2]));
        }
        int flat = x.slice(0, 0, -1);
        Check.due("a place of no dimension", x.cell(flat, 6, 9, Integer.MIN_VALUE), -3);
        Check.throwing("the second is looked at", Check.INDEX, () -> x.cell(flat, 6, 10, 0));
    }

    private static void together() {
        GridVault x = cube();
        long[] want = {37, 3, -3, 40};
        for (int what = 0; what < 4; what++) {
            int w = what;
            Check.due("all(0, " + what + ")", x.all(0, what), want[what]);
            Check.throwing("all(1, " + what + ") of none", Check.UNSUPPORTED, () -> x.all(1, w));
        }
        wrongNodes("all", node -> x.all(node, 0));
        Check.throwing("all(0, 4)", Check.ARGUMENT, () -> x.all(0, 4));
        Check.throwing("all(0, -1)", Check.ARGUMENT, () -> x.all(0, -1));
        Check.throwing("all(1, 4)", Check.ARGUMENT, () -> x.all(1, 4));
        x.put(0, 5, 7, Long.MAX_VALUE);
        x.put(0, 5, 8, Long.MAX_VALUE);
        x.commit();
        int n = x.read(2);
        Check.due("the sum wraps", x.all(n, 0), 35);
        Check.due("the greatest", x.all(n, 3), Long.MAX_VALUE);
    }
}

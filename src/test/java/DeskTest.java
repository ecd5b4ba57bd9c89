/** Promises 3, 4, 5, 7 and 25. */
public final class DeskTest {
    public static void main(String[] args) {
        putting();
        erasing();
        filling();
        opening();
        counting();
        Check.end();
    }

    private static GridVault cube() {
        GridVault x = new GridVault();
        x.begin(3, -2, 3, 0, 4, 10, 12);
        return x;
    }

    private static long desk(GridVault x, int a, int b, int c) {
        int made = x.commit();
        int node = x.read(made);
        return x.cell(node, a, b, c);
    }

    private static void putting() {
        GridVault x = cube();
        x.put(-2, 0, 10, Long.MIN_VALUE);
        x.put(3, 4, 12, Long.MAX_VALUE);
        x.put(0, 0, 11, 0);
        Check.due("three are put", x.count(3), 3);
        x.put(0, 0, 11, 8);
        Check.due("one is put again", x.count(3), 3);
        Check.due("the number put last", desk(x, 0, 0, 11), 8);
        Check.due("the first cell", desk(x, -2, 0, 10), Long.MIN_VALUE);
        Check.due("the last cell", desk(x, 3, 4, 12), Long.MAX_VALUE);
        int[][] none = {{-3, 0, 10}, {4, 0, 10}, {0, -1, 10}, {0, 5, 10}, {0, 0, 9}, {0, 0, 13},
            {Integer.MIN_VALUE, 0, 10}, {Integer.MAX_VALUE, 0, 10}, {0, Integer.MAX_VALUE, 10}, {0, 0, Integer.MIN_VALUE}};
        for (int[] n : none) {
            Check.throwing("put where none is", Check.INDEX, () -> x.put(n[0], n[1], n[2], 1));
            Check.throwing("erase where none is", Check.INDEX, () -> x.erase(n[0], n[1], n[2]));
        }
        Check.due("nothing was put", x.count(3), 0);
        GridVault flat = new GridVault();
        flat.begin(2, 0, 1, 5, 6, 0, 0);
        flat.put(1, 6, Integer.MAX_VALUE, 3);
        Check.due("a place of no dimension", desk(flat, 1, 6, Integer.MIN_VALUE), 3);
        Check.throwing("the second is looked at", Check.INDEX, () -> flat.put(1, 7, 0, 3));
    }

    private static void erasing() {
        GridVault x = cube();
        x.erase(0, 0, 10);
        Check.due("an empty one is erased", x.count(3), 0);
        x.put(0, 0, 10, 6);
        x.put(0, 0, 11, 7);
        x.erase(0, 0, 10);
        Check.due("one is left", x.count(3), 1);
        x.commit();
        x.erase(0, 0, 11);
        Check.due("it differs", x.count(3), 1);
        Check.due("it is committed", x.commit(), 2);
        Check.due("none is left", x.version(2, 3), 0);
        x.put(0, 0, 11, 0);
        Check.due("0 is not empty", x.count(3), 1);
        GridVault line = new GridVault();
        line.put(0, 0, 0, 1);
        line.erase(0, 99, 99);
        Check.due("places of no dimension", line.count(3), 0);
    }

    private static void filling() {
        GridVault x = cube();
        x.fill(0, -1, 0, 5);
        Check.due("two of the first", x.count(3), 2 * 5 * 3);
        x.fill(1, 4, 4, 6);
        Check.due("and one of the second", x.count(3), 2 * 5 * 3 + 4 * 3);
        x.fill(2, 10, 12, 7);
        Check.due("and all of the third", x.count(3), 6 * 5 * 3);
        Check.due("the last one counts", desk(x, -1, 4, 11), 7);
        x.fill(1, 0, 1, 9);
        Check.due("below", desk(x, 0, 1, 10), 9);
        Check.due("beside", desk(x, 0, 2, 10), 7);
        Check.throwing("no dimension 3", Check.ARGUMENT, () -> x.fill(3, 0, 0, 1));
        Check.throwing("no dimension -1", Check.ARGUMENT, () -> x.fill(-1, 0, 0, 1));
        Check.throwing("low above high", Check.ARGUMENT, () -> x.fill(0, 1, 0, 1));
        Check.throwing("low is none", Check.ARGUMENT, () -> x.fill(0, -3, 0, 1));
        Check.throwing("high is none", Check.ARGUMENT, () -> x.fill(0, 0, 4, 1));
        Check.throwing("both are none", Check.ARGUMENT, () -> x.fill(2, 0, 1, 1));
        Check.throwing("far away", Check.ARGUMENT, () -> x.fill(2, Integer.MIN_VALUE, Integer.MAX_VALUE, 1));
        Check.due("nothing was filled", x.count(3), 0);
        GridVault flat = new GridVault();
        flat.begin(2, 0, 1, 0, 1, 0, 0);
        Check.throwing("no third dimension", Check.ARGUMENT, () -> flat.fill(2, 0, 0, 1));
    }

    private static void opening() {
        GridVault x = cube();
        x.put(0, 0, 10, 1);
        x.commit();
        x.put(0, 0, 10, 2);
        x.commit();
        x.put(1, 1, 11, 3);
        x.open(1);
        Check.due("as version 1", x.count(3), 0);
        Check.due("of version 1", x.count(2), 1);
        Check.due("its number", desk(x, 0, 0, 10), 1);
        Check.due("its parent", x.version(3, 0), 1);
        x.open(0);
        Check.due("as version 0", x.count(3), 0);
        Check.throwing("no version 4", Check.ARGUMENT, () -> x.open(4));
        Check.throwing("no version -1", Check.ARGUMENT, () -> x.open(-1));
        Check.throwing("no version far away", Check.ARGUMENT, () -> x.open(Integer.MAX_VALUE));
        Check.due("still of version 0", x.count(2), 0);
        x.put(0, 0, 10, 9);
        Check.due("what is opened stays as it is", x.version(0, 3), 0);
    }

    private static void counting() {
        GridVault x = cube();
        x.commit();
        x.commit();
        x.open(1);
        x.read(0);
        x.put(0, 0, 10, 1);
        Check.due("versions", x.count(0), 3);
        Check.due("nodes", x.count(1), 1);
        Check.due("desk's version", x.count(2), 1);
        Check.due("desk's changes", x.count(3), 1);
        Check.throwing("count(4)", Check.ARGUMENT, () -> x.count(4));
        Check.throwing("count(-1)", Check.ARGUMENT, () -> x.count(-1));
    }
}

import java.util.function.Consumer;

/** Promises 3, 4, 5, 7 and 25: each boundary case by itself. */
public final class DeskBoundaryTest {
    private static final int FAR = Given.FAR;
    private static final int DEEP = Given.DEEP;
    private static final int[] ENDS = {-2, 1, 5, 7, 0, 1};

    public static void main(String[] args) {
        Check.tests(DeskBoundaryTest::puttingAtTheEnds, DeskBoundaryTest::puttingBeyondTheEnds,
                DeskBoundaryTest::puttingOnPlacesOfNoDimension, DeskBoundaryTest::puttingAnyNumber,
                DeskBoundaryTest::erasingAtTheEnds, DeskBoundaryTest::erasingBeyondTheEnds,
                DeskBoundaryTest::erasingOnPlacesOfNoDimension, DeskBoundaryTest::erasingWhatIsEmpty,
                DeskBoundaryTest::fillingOfOnePlace, DeskBoundaryTest::fillingOfAllPlaces,
                DeskBoundaryTest::fillingOfNoDimension, DeskBoundaryTest::fillingUpsideDown,
                DeskBoundaryTest::fillingBeyondTheEnds, DeskBoundaryTest::openingTheFirstAndTheLast,
                DeskBoundaryTest::openingWhatIsNotThere, DeskBoundaryTest::openingLeavesNothingOfTheDesk,
                DeskBoundaryTest::openedVersionsStay, DeskBoundaryTest::countingOfOthers,
                DeskBoundaryTest::countingTheFewestAndTheMost, DeskBoundaryTest::countingOfDifferences);
        Check.end();
    }

    private static GridVault array(int dimensions) {
        return Given.array(java.util.Arrays.copyOf(ENDS, 2 * dimensions));
    }

    private interface AtPlace {
        void at(GridVault x, int[] place);
    }

    /** At each corner of an array of 1, 2 and 3 dimensions. */
    private static void atTheEnds(AtPlace call) {
        for (int n = 1; n <= 3; n++) {
            for (int corner = 0; corner < 1 << n; corner++) {
                int[] place = new int[3];
                for (int d = 0; d < n; d++) {
                    place[d] = ENDS[2 * d + (corner >> d & 1)];
                }
                call.at(array(n), place);
            }
        }
    }

    /** One place, or very far, beyond each end of each dimension of an array of 1, 2 and 3 dimensions. */
    private static void beyondTheEnds(String name, AtPlace call) {
        for (int n = 1; n <= 3; n++) {
            for (int end = 0; end < 2 * n; end++) {
                int beyond = end % 2 == 0 ? ENDS[end] - 1 : ENDS[end] + 1;
                int far = end % 2 == 0 ? DEEP : FAR;
                refusedAt(name, n, Given.firstPlace(ENDS), end / 2, beyond, call);
                refusedAt(name, n, Given.lastPlace(ENDS), end / 2, beyond, call);
                refusedAt(name, n, Given.firstPlace(ENDS), end / 2, far, call);
            }
        }
    }

    private static void refusedAt(String name, int n, int[] place, int d, int beyond, AtPlace call) {
        place[d] = beyond;
        Check.refused(name + " at " + beyond + " of dimension " + d + " of " + n, Check.INDEX, () -> filled(n),
                x -> call.at(x, place));
    }

    private static GridVault filled(int dimensions) {
        GridVault x = array(dimensions);
        x.fill(0, -2, 0, 6);
        x.commit();
        x.fill(0, 0, 1, 7);
        return x;
    }

    private static long onTheDesk(GridVault x, int[] place) {
        int node = x.read(x.commit());
        return x.cell(node, place[0], place[1], place[2]);
    }

    private static void puttingAtTheEnds() {
        Check.sentence("promise 3: a CELL at the first or the last place of each DIMENSION has a number");
        atTheEnds((x, place) -> {
            x.put(place[0], place[1], place[2], 9);
            Check.due("one is put", x.count(3), 1);
            Check.due("the one that was put", onTheDesk(x, place), 9);
        });
    }

    private static void puttingBeyondTheEnds() {
        Check.sentence("promise 3: IndexOutOfBoundsException: there is none");
        beyondTheEnds("put", (x, place) -> x.put(place[0], place[1], place[2], 9));
    }

    private static void puttingOnPlacesOfNoDimension() {
        Check.sentence("promise 3: places of DIMENSIONS that there are not: not looked at");
        int[] any = {DEEP, -1, 0, 1, 1000, FAR};
        for (int y : any) {
            for (int z : any) {
                GridVault line = array(1);
                line.put(0, y, z, 3);
                Check.due("one dimension", onTheDesk(line, new int[] {0, 0, 0}), 3);
                GridVault flat = array(2);
                flat.put(0, 6, z, 3);
                Check.due("two dimensions", onTheDesk(flat, new int[] {0, 6, 0}), 3);
            }
        }
    }

    private static void puttingAnyNumber() {
        Check.sentence("Terms: CELLS are empty or have a number of 64 bits, of which 0 is one");
        long[] numbers = {Long.MIN_VALUE, Long.MIN_VALUE + 1, -1, 0, 1, Long.MAX_VALUE};
        for (long number : numbers) {
            GridVault x = array(1);
            x.put(1, 0, 0, number);
            Check.due(number + " is not as empty", x.count(3), 1);
            x.put(1, 0, 0, number);
            Check.due(number + " put twice", x.count(3), 1);
            Check.node("cells with " + number, x, x.read(x.commit()), Given.ends(-2, 1), null, null, null, number);
            x.put(1, 0, 0, number);
            Check.due(number + " put where it is", x.count(3), 0);
        }
    }

    private static void erasingAtTheEnds() {
        Check.sentence("promise 4: a CELL at the first or the last place of each DIMENSION is empty");
        atTheEnds((x, place) -> {
            x.fill(0, -2, 1, 6);
            int all = x.count(3);
            x.erase(place[0], place[1], place[2]);
            Check.due("one is erased", x.count(3), all - 1);
            Check.throwing("the one that was erased", Check.UNSUPPORTED, () -> onTheDesk(x, place));
        });
        GridVault x = Given.full(6, 0, 15, 0, 15, 0, 15);
        x.erase(15, 15, 15);
        int node = x.read(x.commit());
        Check.throwing("the last of 4096", Check.UNSUPPORTED, () -> x.cell(node, 15, 15, 15));
        Check.due("no other of 4096", x.shape(node, 8), 4095);
    }

    private static void erasingBeyondTheEnds() {
        Check.sentence("promise 4: IndexOutOfBoundsException");
        beyondTheEnds("erase", (x, place) -> x.erase(place[0], place[1], place[2]));
    }

    private static void erasingOnPlacesOfNoDimension() {
        Check.sentence("promise 4: the CELL of promise 3: places of DIMENSIONS that there are not: not looked at");
        int[] any = {DEEP, -1, 0, 1, FAR};
        for (int z : any) {
            GridVault line = array(1);
            line.put(0, 0, 0, 3);
            line.erase(0, z, z);
            Check.due("one dimension", line.count(3), 0);
            GridVault flat = array(2);
            flat.put(0, 6, 0, 3);
            flat.erase(0, 6, z);
            Check.due("two dimensions", flat.count(3), 0);
        }
    }

    private static void erasingWhatIsEmpty() {
        Check.sentence("promise 4: it is empty, also if it was");
        GridVault x = array(1);
        x.erase(0, 0, 0);
        Check.due("nothing was there", x.count(3), 0);
        x.put(0, 0, 0, 0);
        x.erase(0, 0, 0);
        x.erase(0, 0, 0);
        Check.due("it was erased before", x.count(3), 0);
        x.put(0, 0, 0, 5);
        Check.due("it can be put again", onTheDesk(x, new int[3]), 5);
    }

    private static void fillingOfOnePlace() {
        Check.sentence("promise 5: low and high may be the same, at either end of each DIMENSION");
        for (int n = 1; n <= 3; n++) {
            for (int end = 0; end < 2 * n; end++) {
                GridVault x = array(n);
                int at = ENDS[end];
                x.fill(end / 2, at, at, 4);
                int all = cellsOf(n);
                Check.due("one place of " + n + " dimensions", x.count(3), all / lengthOf(end / 2));
                int node = x.read(x.commit());
                Check.due("it is this place", x.shape(x.filter(x.sub(node, end / 2, at, at), 0, 4), 8),
                        all / lengthOf(end / 2));
            }
        }
    }

    private static int lengthOf(int d) {
        return ENDS[2 * d + 1] - ENDS[2 * d] + 1;
    }

    private static int cellsOf(int dimensions) {
        int cells = 1;
        for (int d = 0; d < dimensions; d++) {
            cells *= lengthOf(d);
        }
        return cells;
    }

    private static void fillingOfAllPlaces() {
        Check.sentence("promise 5: from the first place to the last one: all CELLS have the number");
        for (int n = 1; n <= 3; n++) {
            for (int d = 0; d < n; d++) {
                GridVault x = array(n);
                x.put(0, 6, 0, 3);
                x.fill(d, ENDS[2 * d], ENDS[2 * d + 1], 0);
                int node = x.read(x.commit());
                Check.due("all have a number", x.shape(node, 8), cellsOf(n));
                Check.due("the least", x.all(node, 2), 0);
                Check.due("the greatest", x.all(node, 3), 0);
            }
        }
    }

    private static void fillRefused(String name, int n, Consumer<GridVault> fill) {
        Check.refused("fill of " + n + " dimensions: " + name, Check.ARGUMENT, () -> filled(n), fill);
    }

    private static void fillingOfNoDimension() {
        Check.sentence("promise 5: IllegalArgumentException: there is no DIMENSION d");
        for (int n = 1; n <= 3; n++) {
            int[] none = {DEEP, -1, n, 3, FAR};
            for (int d : none) {
                fillRefused("d is " + d, n, x -> x.fill(d, 0, 0, 9));
            }
        }
    }

    private static void fillingUpsideDown() {
        Check.sentence("promise 5: IllegalArgumentException: low is above high");
        fillRefused("by one", 1, x -> x.fill(0, 1, 0, 9));
        fillRefused("from end to end", 1, x -> x.fill(0, 1, -2, 9));
        fillRefused("by one in the second", 2, x -> x.fill(1, 7, 6, 9));
        fillRefused("by one in the third", 3, x -> x.fill(2, 1, 0, 9));
    }

    private static void fillingBeyondTheEnds() {
        Check.sentence("promise 5: IllegalArgumentException: low or high is none of it");
        for (int n = 1; n <= 3; n++) {
            for (int dimension = 0; dimension < n; dimension++) {
                int d = dimension;
                int low = ENDS[2 * d];
                int high = ENDS[2 * d + 1];
                fillRefused("low", n, x -> x.fill(d, low - 1, high, 9));
                fillRefused("high", n, x -> x.fill(d, low, high + 1, 9));
                fillRefused("both are before it", n, x -> x.fill(d, low - 1, low - 1, 9));
                fillRefused("both are behind it", n, x -> x.fill(d, high + 1, high + 1, 9));
                fillRefused("both are round it", n, x -> x.fill(d, low - 1, high + 1, 9));
                fillRefused("very far", n, x -> x.fill(d, DEEP, FAR, 9));
            }
        }
    }

    private static void openingTheFirstAndTheLast() {
        Check.sentence("promise 7: VERSION 0 and the last VERSION are there");
        GridVault x = Given.used();
        x.open(0);
        Check.due("of version 0", x.count(2), 0);
        Check.due("as version 0", x.count(3), 0);
        Check.due("it is empty", x.version(x.commit(), 3), 0);
        x.open(3);
        Check.due("of version 3", x.count(2), 3);
        Check.due("the next one's parent", x.version(x.commit(), 0), 3);
        GridVault full = Given.fullOfVersions();
        full.open(40);
        Check.due("of version 40", full.count(2), 40);
        Check.due("as version 40", full.count(3), 0);
    }

    private static void openingWhatIsNotThere() {
        Check.sentence("promise 7: IllegalArgumentException: there is none");
        int[] none = {DEEP, -1, 3, FAR};
        for (int version : none) {
            Check.refused("open(" + version + ")", Check.ARGUMENT, Given::used, x -> x.open(version));
        }
        Check.refused("open(1) of a new one", Check.ARGUMENT, GridVault::new, x -> x.open(1));
        Check.refused("open(41)", Check.ARGUMENT, Given::fullOfVersions, x -> x.open(41));
    }

    private static void openingLeavesNothingOfTheDesk() {
        Check.sentence("promise 7: THE DESK is a VERSION again, as that is: the one that it is of, too");
        GridVault x = Given.row(0, 1L, null, 3L);
        x.put(0, 0, 0, 9);
        x.put(1, 0, 0, 9);
        x.erase(2, 0, 0);
        Check.due("all three differ", x.count(3), 3);
        x.open(1);
        Check.due("none differs", x.count(3), 0);
        Check.node("the desk", x, x.read(x.commit()), Given.ends(0, 2), 1L, null, 3L);
    }

    private static void openedVersionsStay() {
        Check.sentence("promise 7: what is put on THE DESK then does not change the VERSION");
        GridVault x = Given.row(0, 1L, null, 3L);
        x.open(1);
        x.fill(0, 0, 2, 8);
        x.erase(2, 0, 0);
        Check.node("version 1", x, x.read(1), Given.ends(0, 2), 1L, null, 3L);
        x.commit();
        Check.node("version 1, after commit", x, x.read(1), Given.ends(0, 2), 1L, null, 3L);
        x.open(0);
        x.fill(0, 0, 2, 8);
        Check.node("version 0", x, x.read(0), Given.ends(0, 2), null, null, null);
    }

    private static void countingOfOthers() {
        Check.sentence("promise 25: IllegalArgumentException for others");
        int[] others = {DEEP, -1, 4, 5, FAR};
        for (int what : others) {
            Check.refused("count(" + what + ")", Check.ARGUMENT, Given::used, x -> x.count(what));
        }
        int[] want = {3, 5, 1, 2};
        for (int what = 0; what < 4; what++) {
            Check.due("count(" + what + ")", Given.used().count(what), want[what]);
        }
    }

    private static void countingTheFewestAndTheMost() {
        Check.sentence("promise 25: VERSIONS, from 1 to 41");
        GridVault x = new GridVault();
        Check.due("versions of a new one", x.count(0), 1);
        Check.due("all versions", Given.fullOfVersions().count(0), 41);
        Check.sentence("promise 25: NODES, from 0 to 150");
        Check.due("nodes of a new one", x.count(1), 0);
        Check.due("all nodes", Given.nodes(150).count(1), 150);
        Check.sentence("promise 25: the VERSION of which THE DESK is, 0 at first, up to 40");
        Check.due("desk of a new one", x.count(2), 0);
        Check.due("desk of the last one", Given.fullOfVersions().count(2), 40);
    }

    private static void countingOfDifferences() {
        Check.sentence("promise 25: CELLS in which it differs from that: none, and all");
        GridVault x = Given.array(0, 15, 0, 15, 0, 15);
        Check.due("none differs", x.count(3), 0);
        x.fill(0, 0, 15, 0);
        Check.due("all have 0 and were empty", x.count(3), 4096);
        x.commit();
        Check.due("none differs after commit", x.count(3), 0);
        x.fill(1, 0, 15, 1);
        Check.due("all have another number", x.count(3), 4096);
        x.fill(2, 0, 15, 0);
        Check.due("all are as they were", x.count(3), 0);
        x.erase(15, 15, 15);
        Check.due("the last one is empty and had 0", x.count(3), 1);
        x.open(0);
        x.put(3, 3, 3, 0);
        Check.due("one has 0 and was empty", x.count(3), 1);
    }
}

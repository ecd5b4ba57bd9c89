/** Promises 6, 8 and 9, and what Terms say of VERSIONS, CHUNKS and OCTETS: each boundary case by itself. */
public final class VersionBoundaryTest {
    private static final int FAR = Given.FAR;
    private static final int DEEP = Given.DEEP;

    public static void main(String[] args) {
        Check.tests(VersionBoundaryTest::theLastVersion, VersionBoundaryTest::parents,
                VersionBoundaryTest::versionsStay, VersionBoundaryTest::nothingChanged,
                VersionBoundaryTest::versionZero, VersionBoundaryTest::askingOfOtherVersions,
                VersionBoundaryTest::askingForOthers, VersionBoundaryTest::fewestAndMostCells,
                VersionBoundaryTest::chunksAreFourLong, VersionBoundaryTest::chunksAreCountedFromTheLow,
                VersionBoundaryTest::chunksAtTheHighEnd, VersionBoundaryTest::chunksOfAFullArray,
                VersionBoundaryTest::octetsOfNoChunk, VersionBoundaryTest::octetsOfAnEmptyChunk,
                VersionBoundaryTest::octetsOfAllCellsOfAChunk, VersionBoundaryTest::octetsOfEachLength,
                VersionBoundaryTest::octetsOfTheFirstRun, VersionBoundaryTest::octetsThatWrap,
                VersionBoundaryTest::runsOverEmptyCells, VersionBoundaryTest::runsInOrder,
                VersionBoundaryTest::runsOfEachCell, VersionBoundaryTest::runsEndWithTheirChunk,
                VersionBoundaryTest::differingByNone, VersionBoundaryTest::differingByAll,
                VersionBoundaryTest::emptyIsNotZero, VersionBoundaryTest::differingOfOthers);
        Check.end();
    }

    private static int octets(GridVault x) {
        return x.version(x.commit(), 2);
    }

    private static void theLastVersion() {
        Check.sentence("promise 6: the number of the VERSION, up to 40; IndexOutOfBoundsException: there are 41");
        GridVault x = Given.array(0, 1);
        for (int i = 1; i <= 40; i++) {
            x.put(i % 2, 0, 0, i);
            Check.due("commit " + i, x.commit(), i);
        }
        Check.throwing("a 42nd version", Check.INDEX, x::commit);
        Check.refused("a 42nd version", Check.INDEX, Given::fullOfVersions, GridVault::commit);
        GridVault y = Given.fullOfVersions();
        Check.throwing("a 42nd version", Check.INDEX, y::commit);
        Check.due("the desk differs as it did", y.count(3), 1);
        y.put(0, 0, 0, 40);
        Check.due("the desk is of the version that it was of", y.count(3), 0);
        y.open(3);
        Check.throwing("a 42nd version of another", Check.INDEX, y::commit);
        Check.due("the desk is of the other", y.count(2), 3);
    }

    private static void parents() {
        Check.sentence("Terms: committed it is a new VERSION, whose PARENT is that one; THE DESK is of this one then");
        GridVault x = Given.array(0, 0);
        Check.due("the first", x.commit(), 1);
        Check.due("its parent", x.version(1, 0), 0);
        Check.due("the desk", x.count(2), 1);
        Check.due("the second", x.commit(), 2);
        Check.due("its parent", x.version(2, 0), 1);
        x.open(0);
        Check.due("the third", x.commit(), 3);
        Check.due("its parent", x.version(3, 0), 0);
        Check.due("the desk", x.count(2), 3);
        Check.due("no changes", x.count(3), 0);
    }

    private static void versionsStay() {
        Check.sentence("promise 6: what is put on THE DESK behind a commit is not of that VERSION");
        GridVault x = Given.row(0, 4L, null);
        x.put(0, 0, 0, 5);
        x.put(1, 0, 0, 6);
        Check.node("version 1", x, 0, Given.ends(0, 1), 4L, null);
        Check.due("its cells", x.version(1, 3), 1);
        x.commit();
        Check.node("version 1, read again", x, x.read(1), Given.ends(0, 1), 4L, null);
    }

    private static void nothingChanged() {
        Check.sentence("promise 6: THE DESK may be committed though nothing was put there");
        GridVault x = Given.row(0, 4L, null);
        Check.due("commit", x.commit(), 2);
        Check.due("chunks", x.version(2, 1), 0);
        Check.due("octets", x.version(2, 2), 0);
        Check.due("cells", x.version(2, 3), 1);
        Check.due("of version 0 too", new GridVault().commit(), 1);
    }

    private static void versionZero() {
        Check.sentence("promise 8: its PARENT (-1 of 0), CHUNKS (0 of 0); Terms: 0 is all empty");
        int[] want = {-1, 0, 0, 0};
        GridVault x = Given.full(3, -2, 9, 0, 4);
        for (int what = 0; what < 4; what++) {
            Check.due("version(0, " + what + ")", x.version(0, what), want[what]);
        }
        Check.due("read of it", x.shape(x.read(0), 8), 0);
    }

    private static void askingOfOtherVersions() {
        Check.sentence("promise 8: IllegalArgumentException: version");
        int[] none = {DEEP, -1, 3, FAR};
        for (int version : none) {
            for (int what = 0; what < 4; what++) {
                int w = what;
                Check.refused("version(" + version + ", " + w + ")", Check.ARGUMENT, Given::used,
                        x -> x.version(version, w));
            }
        }
        Check.due("the last one", Given.used().version(2, 0), 1);
        Check.throwing("version(1, 0) of a new one", Check.ARGUMENT, () -> new GridVault().version(1, 0));
        GridVault full = Given.fullOfVersions();
        Check.due("version 40", full.version(40, 0), 39);
        Check.throwing("version 41", Check.ARGUMENT, () -> full.version(41, 0));
    }

    private static void askingForOthers() {
        Check.sentence("promise 8: IllegalArgumentException: what");
        int[] none = {DEEP, -1, 4, FAR};
        for (int what : none) {
            Check.refused("version(0, " + what + ")", Check.ARGUMENT, Given::used, x -> x.version(0, what));
            Check.refused("version(2, " + what + ")", Check.ARGUMENT, Given::used, x -> x.version(2, what));
            Check.refused("version(3, " + what + ")", Check.ARGUMENT, Given::used, x -> x.version(3, what));
        }
    }

    private static void fewestAndMostCells() {
        Check.sentence("promise 8: CELLS that are not empty: none, one with 0, and all");
        GridVault x = Given.array(0, 15, 0, 15, 0, 15);
        Check.due("none", x.version(x.commit(), 3), 0);
        x.put(15, 15, 15, 0);
        Check.due("one", x.version(x.commit(), 3), 1);
        x.fill(0, 0, 15, 0);
        Check.due("all", x.version(x.commit(), 3), 4096);
        x.erase(0, 0, 0);
        Check.due("all but one", x.version(x.commit(), 3), 4095);
    }

    /** How many chunks differ if just the places p and q of dimension d do. */
    private static int chunksOf(int d, int p, int q, int... ends) {
        GridVault x = Given.array(ends);
        int[] at = Given.firstPlace(ends);
        at[d] = p;
        x.put(at[0], at[1], at[2], 1);
        at[d] = q;
        x.put(at[0], at[1], at[2], 1);
        return x.version(x.commit(), 1);
    }

    private static void chunksAreFourLong() {
        Check.sentence("Terms: CHUNKS are boxes of 4 places in each DIMENSION");
        int[] ends = {0, 15, 0, 15, 0, 15};
        for (int d = 0; d < 3; d++) {
            for (int p = 0; p < 15; p++) {
                int want = p % 4 == 3 ? 2 : 1;
                Check.due("places " + p + " and " + (p + 1) + " of " + d, chunksOf(d, p, p + 1, ends), want);
            }
            Check.due("the first four of " + d, chunksOf(d, 0, 3, ends), 1);
            Check.due("the last four of " + d, chunksOf(d, 12, 15, ends), 1);
        }
    }

    private static void chunksAreCountedFromTheLow() {
        Check.sentence("Terms: CHUNKS are counted from the low");
        int[] lows = {-100, -7, -3, -2, -1, 1, 2, 3, 85};
        for (int low : lows) {
            int[] ends = {low, low + 8, low, low + 8, low, low + 8};
            for (int d = 0; d < 3; d++) {
                Check.due("places 0 and 3 from " + low, chunksOf(d, low, low + 3, ends), 1);
                Check.due("places 3 and 4 from " + low, chunksOf(d, low + 3, low + 4, ends), 2);
                Check.due("places 4 and 7 from " + low, chunksOf(d, low + 4, low + 7, ends), 1);
                Check.due("places 7 and 8 from " + low, chunksOf(d, low + 7, low + 8, ends), 2);
            }
        }
    }

    private static void chunksAtTheHighEnd() {
        Check.sentence("Terms: CHUNKS have fewer places at the high end");
        for (int length = 1; length <= 16; length++) {
            int parts = (length + 3) / 4;
            GridVault line = Given.full(1, -5, length - 6);
            Check.due(length + " long: chunks", line.version(1, 1), parts);
            Check.due(length + " long: octets", line.version(1, 2), parts * 10);
            GridVault flat = Given.full(1, 0, 1, -5, length - 6);
            Check.due(length + " long in the second: chunks", flat.version(1, 1), parts);
            GridVault box = Given.full(1, 0, 4, 0, 0, -5, length - 6);
            Check.due(length + " long in the third: chunks", box.version(1, 1), 2 * parts);
            Check.due(length + " long in the third: octets", box.version(1, 2), 2 * parts * 10);
        }
    }

    private static void chunksOfAFullArray() {
        Check.sentence("promise 8: CHUNKS in which it differs from its PARENT: all 64 of them");
        GridVault x = Given.full(1, 0, 15, 0, 15, 0, 15);
        Check.due("chunks", x.version(1, 1), 64);
        Check.due("octets", x.version(1, 2), 64 * 10);
        x.put(15, 15, 15, 2);
        x.commit();
        Check.due("only the last one", x.version(2, 1), 1);
        x.fill(2, 0, 15, 2);
        x.erase(15, 15, 15);
        x.put(15, 15, 15, 2);
        x.commit();
        Check.due("all of them again", x.version(3, 1), 64);
    }

    private static void octetsOfNoChunk() {
        Check.sentence("Terms: OCTETS for each CHUNK in which it differs from its PARENT: a change taken back is none");
        GridVault x = Given.row(0, 4L, null);
        x.put(0, 0, 0, 5);
        x.put(0, 0, 0, 4);
        x.put(1, 0, 0, 0);
        x.erase(1, 0, 0);
        x.erase(0, 0, 0);
        x.put(0, 0, 0, 4);
        Check.due("octets", octets(x), 0);
        Check.due("chunks", x.version(2, 1), 0);
        x.open(0);
        x.put(0, 0, 0, 4);
        Check.due("as version 1, but not as its parent", octets(x), 10);
    }

    private static void octetsOfAnEmptyChunk() {
        Check.sentence("Terms: OCTETS for each CHUNK: 8, and none for CELLS that are empty");
        GridVault x = Given.row(0, 4L, 5L, null, null, 6L);
        x.erase(0, 0, 0);
        x.erase(1, 0, 0);
        Check.due("an emptied chunk", octets(x), 8);
        Check.due("it differs", x.version(2, 1), 1);
        x.erase(4, 0, 0);
        x.put(0, 0, 0, 0);
        Check.due("0 is not empty", octets(x), 10 + 8);
    }

    private static void octetsOfAllCellsOfAChunk() {
        Check.sentence("Terms: OCTETS for the CELLS of such a CHUNK, also for those that are as they were");
        GridVault x = Given.row(0, 1L, 2L, 3L, null, 100L, null, null, null);
        x.put(3, 0, 0, 4);
        Check.due("one of four is new", octets(x), 8 + 4 * 2);
        x.erase(0, 0, 0);
        Check.due("one of four is gone", octets(x), 8 + 3 * 2);
        x.put(7, 0, 0, 100);
        Check.due("one more of a run", octets(x), 8 + 1 + 2);
    }

    private static void octetsOfEachLength() {
        Check.sentence("Terms: in 7 bits an octet, as few as can be, 1 at least");
        for (int octets = 1; octets <= 9; octets++) {
            long greatest = (1L << 7 * octets - 1) - 1;
            octetsOf(greatest, octets);
            octetsOf(-greatest - 1, octets);
            octetsOf(greatest + 1, octets + 1);
            octetsOf(-greatest - 2, octets + 1);
        }
        octetsOf(0, 1);
        octetsOf(1, 1);
        octetsOf(-1, 1);
        octetsOf(Long.MAX_VALUE, 10);
        octetsOf(Long.MIN_VALUE, 10);
    }

    private static void octetsOf(long number, int want) {
        GridVault x = new GridVault();
        x.put(0, 0, 0, number);
        Check.due("octets of " + number, octets(x), 8 + 1 + want);
        GridVault y = Given.array(0, 1);
        y.put(0, 0, 0, 1000);
        y.put(1, 0, 0, 1000 + number);
        Check.due("octets of a difference of " + number, octets(y), 8 + 3 + (number == 0 ? 0 : 1 + want));
    }

    private static void octetsOfTheFirstRun() {
        Check.sentence("Terms: the number of the run before it: 0 before the first one");
        GridVault x = Given.row(0, 64L, 64L);
        Check.due("a first run of 64", x.version(1, 2), 8 + 1 + 2);
        Check.due("a first run of 0", Given.row(0, 0L, 0L).version(1, 2), 8 + 1 + 1);
        Check.due("a run of 0 behind another", Given.row(0, 5L, 0L).version(1, 2), 8 + 2 + 2);
        Check.due("an empty cell before it", Given.row(0, null, 64L).version(1, 2), 8 + 1 + 2);
        Check.due("back to 64", Given.row(0, 64L, 0L, 64L).version(1, 2), 8 + 3 + 2 + 3);
    }

    private static void octetsThatWrap() {
        Check.sentence("Terms: the difference to the number of the run before it, wrapping");
        long least = Long.MIN_VALUE;
        long greatest = Long.MAX_VALUE;
        Check.due("the greatest, the least", Given.row(0, greatest, least).version(1, 2), 8 + 11 + 2);
        Check.due("the least, the greatest", Given.row(0, least, greatest).version(1, 2), 8 + 11 + 2);
        Check.due("-2, the greatest", Given.row(0, -2L, greatest).version(1, 2), 8 + 2 + 11);
        Check.due("the least, 64 below the greatest", Given.row(0, least, greatest - 63).version(1, 2), 8 + 11 + 2);
        Check.due("the least, 65 below the greatest", Given.row(0, least, greatest - 64).version(1, 2), 8 + 11 + 3);
    }

    private static void runsOverEmptyCells() {
        Check.sentence("Terms: a run is of CELLS that are not empty, one behind the other in this row");
        Check.due("empty ones between", Given.row(0, 9L, null, null, 9L).version(1, 2), 8 + 2);
        Check.due("another between", Given.row(0, 9L, 8L, null, 9L).version(1, 2), 8 + 2 + 2 + 2);
        Check.due("four in one run", Given.row(0, 9L, 9L, 9L, 9L).version(1, 2), 8 + 2);
        Check.due("two runs", Given.row(0, 9L, 9L, 8L, 8L).version(1, 2), 8 + 2 + 2);
    }

    private static void runsInOrder() {
        Check.sentence("Terms: CELLS in order: the last DIMENSION goes fastest");
        GridVault flat = Given.cells(Given.ends(0, 1, 0, 1), 1L, 1L, 500L, 500L);
        Check.due("rows of two dimensions", flat.version(1, 2), 8 + 2 + 3);
        GridVault turned = Given.cells(Given.ends(0, 1, 0, 1), 1L, 500L, 1L, 500L);
        Check.due("columns of two dimensions", turned.version(1, 2), 8 + 2 + 3 + 3 + 3);
        int[] box = Given.ends(0, 1, 0, 1, 0, 1);
        Check.due("planes of three", Given.cells(box, 1L, 1L, 1L, 1L, 500L, 500L, 500L, 500L).version(1, 2), 8 + 5);
        Check.due("rows of three", Given.cells(box, 1L, 1L, 500L, 500L, 1L, 1L, 500L, 500L).version(1, 2), 8 + 11);
        Check.due("columns of three", Given.cells(box, 1L, 500L, 1L, 500L, 1L, 500L, 1L, 500L).version(1, 2), 8 + 23);
    }

    private static void runsOfEachCell() {
        Check.sentence("Terms: for each run: 1 and so on: as many runs as a CHUNK has CELLS");
        GridVault x = Given.array(0, 3, 0, 3, 0, 3);
        for (int i = 0; i < 64; i++) {
            x.put(i / 16, i / 4 % 4, i % 4, i % 2 == 0 ? Long.MAX_VALUE : 0);
        }
        Check.due("64 runs of the longest", octets(x), 8 + 64 * 11);
        Check.due("one chunk", x.version(1, 1), 1);
    }

    private static void runsEndWithTheirChunk() {
        Check.sentence("Terms: OCTETS for each CHUNK: a run, and the number before it, end with their CHUNK");
        GridVault x = Given.array(0, 7);
        x.fill(0, 0, 7, 8000);
        Check.due("the same number in two chunks", octets(x), 2 * (8 + 1 + 2));
        GridVault y = Given.row(0, null, null, null, 8000L, 8001L, null, null, null);
        Check.due("nearly the same", y.version(1, 2), 2 * (8 + 1 + 2));
    }

    private static void differingByNone() {
        Check.sentence("promise 9: how many CELLS are not the same: none");
        GridVault x = Given.used();
        for (int v = 0; v < 3; v++) {
            Check.due("differ(" + v + ", " + v + ")", x.differ(v, v), 0);
        }
        x.open(0);
        x.fill(0, -1, 0, 5);
        x.put(1, 4, 0, 70);
        Check.due("the same cells in another way", x.differ(x.commit(), 1), 0);
        Check.due("a new object's only version", new GridVault().differ(0, 0), 0);
    }

    private static void differingByAll() {
        Check.sentence("promise 9: how many CELLS are not the same: all, one");
        GridVault x = Given.full(0, 0, 15, 0, 15, 0, 15);
        Check.due("all are 0, all are empty", x.differ(0, 1), 4096);
        x.fill(0, 0, 15, -1);
        x.commit();
        Check.due("all are -1, all are 0", x.differ(2, 1), 4096);
        x.put(0, 0, 0, 7);
        x.commit();
        Check.due("the first one", x.differ(2, 3), 1);
        x.open(2);
        x.put(15, 15, 15, 7);
        x.commit();
        Check.due("the last one", x.differ(4, 2), 1);
        Check.due("the first and the last one", x.differ(3, 4), 2);
    }

    private static void emptyIsNotZero() {
        Check.sentence("promise 9: an empty CELL is not the same as 0");
        GridVault x = Given.row(0, 0L, null);
        int other = x.commit();
        x.erase(0, 0, 0);
        x.put(1, 0, 0, 0);
        x.commit();
        Check.due("0 and empty", x.differ(other, other + 1), 2);
        x.erase(1, 0, 0);
        x.put(0, 0, 0, 6);
        x.erase(0, 0, 0);
        Check.due("what was erased is as if it had never been put", x.differ(0, x.commit()), 0);
    }

    private static void differingOfOthers() {
        Check.sentence("promise 9: IllegalArgumentException: there are none");
        int[] none = {DEEP, -1, 3, FAR};
        for (int version : none) {
            Check.refused("differ(" + version + ", 0)", Check.ARGUMENT, Given::used, x -> x.differ(version, 0));
            Check.refused("differ(0, " + version + ")", Check.ARGUMENT, Given::used, x -> x.differ(0, version));
            Check.refused("differ of twice " + version, Check.ARGUMENT, Given::used, x -> x.differ(version, version));
        }
        GridVault full = Given.fullOfVersions();
        Check.due("the last one", full.differ(40, 0), 2);
        Check.throwing("differ(41, 0)", Check.ARGUMENT, () -> full.differ(41, 0));
        Check.throwing("differ(0, 41)", Check.ARGUMENT, () -> full.differ(0, 41));
    }
}

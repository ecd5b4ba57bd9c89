import java.util.ArrayList;
import java.util.List;

/**
 * A database of arrays: versions of the cells of one array, and nodes, arrays that operators make of others.
 * A node's cell is worked out when it is first asked for and then kept, so that no chain of nodes is walked twice.
 */
public final class GridVault {
    private static final int MOST_BEGINS = 2;
    private static final int MOST_VERSIONS = 41;
    private static final int MOST_NODES = 150;
    private static final int MOST_DEPTH = 40;
    private static final int FARTHEST_OF_ARRAY = 100;
    private static final int LONGEST_OF_ARRAY = 16;
    private static final int FARTHEST_OF_EXTEND = 1000;
    private static final int MOST_REACH = 40;

    private final List<Version> versions = new ArrayList<>();
    private final List<Node> nodes = new ArrayList<>();
    private final List<Chunk> chunks = new ArrayList<>();
    private Shape frame;
    private Cells desk;
    private int deskVersion;
    private int begins;

    public GridVault() {
        startAnew(new Shape(1, new int[] {0, 0, 0}, new int[] {0, 0, 0}));
    }

    public void begin(int n, int a, int b, int c, int d, int e, int f)
            throws IllegalArgumentException, IllegalStateException {
        if (begins >= MOST_BEGINS) {
            throw new IllegalStateException("begin was done twice");
        }
        need(n >= 1 && n <= Shape.MOST_DIMENSIONS);
        need(isArrayRange(a, b) && (n < 2 || isArrayRange(c, d)) && (n < 3 || isArrayRange(e, f)));
        int[] lows = {a, n < 2 ? 0 : c, n < 3 ? 0 : e};
        int[] highs = {b, n < 2 ? 0 : d, n < 3 ? 0 : f};
        begins++;
        startAnew(new Shape(n, lows, highs));
    }

    public void put(int x, int y, int z, long v) throws IndexOutOfBoundsException {
        desk.set(deskIndex(x, y, z), v);
    }

    public void erase(int x, int y, int z) throws IndexOutOfBoundsException {
        desk.empty(deskIndex(x, y, z));
    }

    public void fill(int d, int low, int high, long v) throws IllegalArgumentException {
        need(frame.hasRange(d, low, high));
        int size = frame.size();
        for (int i = 0; i < size; i++) {
            int place = frame.placeOf(i, d);
            if (place >= low && place <= high) {
                desk.set(i, v);
            }
        }
    }

    public int commit() throws IndexOutOfBoundsException {
        if (versions.size() >= MOST_VERSIONS) {
            throw new IndexOutOfBoundsException("there are 41 versions");
        }
        Version made = new Version(frame, deskVersion);
        made.encode(desk, versionAt(deskVersion), chunks);
        versions.add(made);
        deskVersion = versions.size() - 1;
        return deskVersion;
    }

    public void open(int version) throws IllegalArgumentException {
        desk.copyFrom(versionAt(version).cells());
        deskVersion = version;
    }

    public int version(int version, int what) throws IllegalArgumentException {
        Version told = versionAt(version);
        switch (what) {
            case 0:
                return told.parent();
            case 1:
                return told.differingChunks();
            case 2:
                return told.octets();
            case 3:
                return told.cells().filled();
            default:
                throw new IllegalArgumentException("what is not 0..3");
        }
    }

    public int differ(int a, int b) throws IllegalArgumentException {
        return versionAt(a).cells().differing(versionAt(b).cells());
    }

    public int read(int version) throws IllegalArgumentException, IndexOutOfBoundsException {
        needRoom();
        return keep(versionAt(version));
    }

    public int sub(int a, int d, int low, int high)
            throws IllegalArgumentException, IndexOutOfBoundsException, UnsupportedOperationException {
        needRoom();
        Node source = nodeAt(a);
        need(source.form().hasRange(d, low, high));
        return keepRanged(source, d, low, high);
    }

    public int slice(int a, int d, int at)
            throws IllegalArgumentException, IndexOutOfBoundsException, UnsupportedOperationException {
        needRoom();
        Node source = nodeAt(a);
        need(source.form().dimensions() > 1 && source.form().hasRange(d, at, at));
        Shape made = source.form().without(d);
        needLimits(made, source.depth());
        return keep(new View(made, source, View.skipping(d), at));
    }

    public int extend(int a, int d, int low, int high)
            throws IllegalArgumentException, IndexOutOfBoundsException, UnsupportedOperationException {
        needRoom();
        Node source = nodeAt(a);
        Shape shape = source.form();
        need(shape.hasDimension(d) && low <= shape.low(d) && high >= shape.high(d));
        need(low >= -FARTHEST_OF_EXTEND && high <= FARTHEST_OF_EXTEND);
        return keepRanged(source, d, low, high);
    }

    public int apply(int a, int op, long c)
            throws IllegalArgumentException, IndexOutOfBoundsException, UnsupportedOperationException {
        needRoom();
        Node source = nodeAt(a);
        need(op >= 0 && op < Each.CHANGES);
        needLimits(source.form(), source.depth());
        return keep(new Each(source, op, c));
    }

    public int filter(int a, int relation, long c)
            throws IllegalArgumentException, IndexOutOfBoundsException, UnsupportedOperationException {
        needRoom();
        Node source = nodeAt(a);
        need(relation >= 0 && relation < Each.RELATIONS);
        needLimits(source.form(), source.depth());
        return keep(new Each(source, Each.CHANGES + relation, c));
    }

    public int join(int a, int b, int op)
            throws IllegalArgumentException, IndexOutOfBoundsException, UnsupportedOperationException {
        needRoom();
        Node first = nodeAt(a);
        Node second = nodeAt(b);
        need(op >= 0 && op < Joined.OPERATIONS);
        need(first.form().meets(second.form()));
        Shape made = first.form().common(second.form());
        needLimits(made, Math.max(first.depth(), second.depth()));
        return keep(new Joined(made, first, second, op));
    }

    public int gather(int a, int d, int what)
            throws IllegalArgumentException, IndexOutOfBoundsException, UnsupportedOperationException {
        needRoom();
        Node source = nodeAt(a);
        Shape shape = source.form();
        need(shape.hasDimension(d) && shape.dimensions() > 1 && Tally.isKnown(what));
        return keepFolded(shape.without(d), source, d, Folded.GATHER, 0, what);
    }

    public int regrid(int a, int d, int k, int what)
            throws IllegalArgumentException, IndexOutOfBoundsException, UnsupportedOperationException {
        needRoom();
        Node source = nodeAt(a);
        Shape shape = source.form();
        need(shape.hasDimension(d) && k >= 1 && k <= MOST_REACH && Tally.isKnown(what));
        Shape made = shape.ranged(d, Math.floorDiv(shape.low(d), k), Math.floorDiv(shape.high(d), k));
        return keepFolded(made, source, d, Folded.REGRID, k, what);
    }

    public int window(int a, int d, int r, int what)
            throws IllegalArgumentException, IndexOutOfBoundsException, UnsupportedOperationException {
        needRoom();
        Node source = nodeAt(a);
        Shape shape = source.form();
        need(shape.hasDimension(d) && r >= 0 && r <= MOST_REACH && Tally.isKnown(what));
        return keepFolded(shape, source, d, Folded.WINDOW, r, what);
    }

    public int swap(int a, int d, int e)
            throws IllegalArgumentException, IndexOutOfBoundsException, UnsupportedOperationException {
        needRoom();
        Node source = nodeAt(a);
        need(source.form().hasDimension(d) && source.form().hasDimension(e));
        Shape made = source.form().swapped(d, e);
        needLimits(made, source.depth());
        return keep(new View(made, source, View.exchanging(d, e), 0));
    }

    public int product(int a, int b)
            throws IllegalArgumentException, IndexOutOfBoundsException, UnsupportedOperationException {
        needRoom();
        Node left = nodeAt(a);
        Node right = nodeAt(b);
        need(left.form().dimensions() == 2 && right.form().dimensions() == 2);
        Shape made = left.form().ranged(1, right.form().low(1), right.form().high(1));
        needLimits(made, Math.max(left.depth(), right.depth()));
        return keep(new Product(made, left, right));
    }

    public int shape(int node, int what) throws IllegalArgumentException {
        Node told = nodeAt(node);
        need(what >= 0 && what <= 8);
        if (what == 0) {
            return told.form().dimensions();
        }
        if (what == 1) {
            return told.depth();
        }
        if (what == 8) {
            return told.filled();
        }
        int d = what / 2 - 1;
        return what % 2 == 0 ? told.form().low(d) : told.form().high(d);
    }

    public long cell(int node, int x, int y, int z)
            throws IllegalArgumentException, IndexOutOfBoundsException, UnsupportedOperationException {
        Node told = nodeAt(node);
        int index = told.form().indexOf(x, y, z);
        if (index < 0) {
            throw new IndexOutOfBoundsException("there is no such cell");
        }
        if (!told.holds(index)) {
            throw new UnsupportedOperationException("the cell is empty");
        }
        return told.number(index);
    }

    public long all(int node, int what) throws IllegalArgumentException, UnsupportedOperationException {
        Node told = nodeAt(node);
        need(Tally.isKnown(what));
        Tally tally = new Tally(what);
        tally.takeRow(told, 0, 1, told.form().size());
        if (tally.isOfNone()) {
            throw new UnsupportedOperationException("all cells are empty");
        }
        return tally.result();
    }

    public int count(int what) throws IllegalArgumentException {
        switch (what) {
            case 0:
                return versions.size();
            case 1:
                return nodes.size();
            case 2:
                return deskVersion;
            case 3:
                return desk.differing(versionAt(deskVersion).cells());
            default:
                throw new IllegalArgumentException("what is not 0..3");
        }
    }

    private void startAnew(Shape shape) {
        frame = shape;
        desk = new Cells(shape.size());
        deskVersion = 0;
        nodes.clear();
        versions.clear();
        versions.add(new Version(shape, Version.NO_PARENT));
        cutChunks();
    }

    private void cutChunks() {
        chunks.clear();
        for (int x = frame.low(0); x <= frame.high(0); x += Chunk.SIDE) {
            for (int y = frame.low(1); y <= frame.high(1); y += Chunk.SIDE) {
                for (int z = frame.low(2); z <= frame.high(2); z += Chunk.SIDE) {
                    chunks.add(new Chunk(frame, x, y, z));
                }
            }
        }
    }

    private static boolean isArrayRange(int low, int high) {
        return low >= -FARTHEST_OF_ARRAY && high <= FARTHEST_OF_ARRAY
                && low <= high && high - low < LONGEST_OF_ARRAY;
    }

    private int deskIndex(int x, int y, int z) {
        int index = frame.indexOf(x, y, z);
        if (index < 0) {
            throw new IndexOutOfBoundsException("there is no such cell");
        }
        return index;
    }

    private Version versionAt(int number) {
        need(number >= 0 && number < versions.size());
        return versions.get(number);
    }

    private Node nodeAt(int number) {
        need(number >= 0 && number < nodes.size());
        return nodes.get(number);
    }

    private static void need(boolean asSaid) {
        if (!asSaid) {
            throw new IllegalArgumentException("an argument is not as the document says");
        }
    }

    private void needRoom() {
        if (nodes.size() >= MOST_NODES) {
            throw new IndexOutOfBoundsException("there are 150 nodes");
        }
    }

    private static void needLimits(Shape made, int deepestSource) {
        if (!made.isWithinLimits() || deepestSource >= MOST_DEPTH) {
            throw new UnsupportedOperationException("the shape or the depth would be beyond the limits");
        }
    }

    private int keep(Node made) {
        nodes.add(made);
        return nodes.size() - 1;
    }

    private int keepRanged(Node source, int d, int low, int high) {
        Shape made = source.form().ranged(d, low, high);
        needLimits(made, source.depth());
        return keep(new View(made, source, View.straight(), 0));
    }

    private int keepFolded(Shape made, Node source, int d, int kind, int reach, int what) {
        needLimits(made, source.depth());
        return keep(new Folded(made, source, d, kind, reach, new Tally(what)));
    }

    /**
     * The dimensions of an array. One that there is not counts as a single place 0, so that the same arithmetic
     * serves one, two and three dimensions.
     */
    private static final class Shape {
        static final int MOST_DIMENSIONS = 3;
        static final int NOWHERE = -1;
        private static final int LONGEST = 40;
        private static final int MOST_CELLS = 2048;

        private final int dimensions;
        private final int[] lows;
        private final int[] highs;
        private final int[] lengths;
        /** How far apart in the row of cells two neighbours along a dimension are: the last one goes fastest. */
        private final int[] steps;
        private final int size;

        Shape(int dimensions, int[] lows, int[] highs) {
            this.dimensions = dimensions;
            this.lows = lows;
            this.highs = highs;
            lengths = new int[] {high(0) - low(0) + 1, high(1) - low(1) + 1, high(2) - low(2) + 1};
            steps = new int[] {length(1) * length(2), length(2), 1};
            size = length(0) * step(0);
        }

        int dimensions() {
            return dimensions;
        }

        int low(int d) {
            return d >= 0 && d < lows.length ? lows[d] : 0;
        }

        int high(int d) {
            return d >= 0 && d < highs.length ? highs[d] : 0;
        }

        int length(int d) {
            return d >= 0 && d < lengths.length ? lengths[d] : 1;
        }

        int step(int d) {
            return d >= 0 && d < steps.length ? steps[d] : 1;
        }

        int size() {
            return size;
        }

        boolean hasDimension(int d) {
            return d >= 0 && d < dimensions;
        }

        boolean hasRange(int d, int from, int to) {
            return hasDimension(d) && from <= to && from >= low(d) && to <= high(d);
        }

        boolean isWithinLimits() {
            return length(0) <= LONGEST && length(1) <= LONGEST && length(2) <= LONGEST && size <= MOST_CELLS;
        }

        int indexOf(int x, int y, int z) {
            int i = offset(0, x);
            int j = offset(1, y);
            int k = offset(2, z);
            return i < 0 || j < 0 || k < 0 ? NOWHERE : i + j + k;
        }

        private int offset(int d, int place) {
            if (!hasDimension(d)) {
                return 0;
            }
            return place < low(d) || place > high(d) ? NOWHERE : (place - low(d)) * step(d);
        }

        int placeOf(int index, int d) {
            int step = step(d);
            int length = length(d);
            if (step < 1 || length < 1) {
                return 0;
            }
            return low(d) + index / step % length;
        }

        Shape ranged(int d, int low, int high) {
            return new Shape(dimensions, replaced(lows, d, low), replaced(highs, d, high));
        }

        Shape without(int d) {
            return new Shape(dimensions - 1, dropped(lows, d), dropped(highs, d));
        }

        Shape swapped(int d, int e) {
            return ranged(d, low(e), high(e)).ranged(e, low(d), high(d));
        }

        boolean meets(Shape other) {
            boolean meeting = dimensions == other.dimensions;
            for (int d = 0; d < dimensions; d++) {
                meeting = meeting && low(d) <= other.high(d) && other.low(d) <= high(d);
            }
            return meeting;
        }

        Shape common(Shape other) {
            int[] highestLows = {
                Math.max(low(0), other.low(0)), Math.max(low(1), other.low(1)), Math.max(low(2), other.low(2))};
            int[] lowestHighs = {
                Math.min(high(0), other.high(0)), Math.min(high(1), other.high(1)), Math.min(high(2), other.high(2))};
            return new Shape(dimensions, highestLows, lowestHighs);
        }

        private static int[] replaced(int[] row, int d, int value) {
            int[] made = row.clone();
            if (d >= 0 && d < made.length) {
                made[d] = value;
            }
            return made;
        }

        /** What stood behind d moves up; the last dimension is then one that there is not. */
        private static int[] dropped(int[] row, int d) {
            int[] made = row.clone();
            for (int i = Math.max(d, 0); i < made.length; i++) {
                made[i] = i + 1 < row.length ? row[i + 1] : 0;
            }
            return made;
        }
    }

    /** A row of cells; whether a cell has a number is one bit of its marks, to keep what a run makes small. */
    private static final class Cells {
        private final long[] numbers;
        private final long[] marks;

        Cells(int size) {
            int length = Math.max(size, 0);
            numbers = new long[length];
            marks = new long[(length + 63) / 64];
        }

        boolean has(int i) {
            return isInside(i) && (marks[i >> 6] >>> (i & 63) & 1L) != 0;
        }

        long number(int i) {
            return has(i) ? numbers[i] : 0;
        }

        void set(int i, long v) {
            if (isInside(i)) {
                numbers[i] = v;
                marks[i >> 6] |= 1L << (i & 63);
            }
        }

        void empty(int i) {
            if (isInside(i)) {
                marks[i >> 6] &= ~(1L << (i & 63));
            }
        }

        boolean isInside(int i) {
            return i >= 0 && i < numbers.length;
        }

        void copyFrom(Cells other) {
            if (numbers.length == other.numbers.length) {
                System.arraycopy(other.numbers, 0, numbers, 0, numbers.length);
                System.arraycopy(other.marks, 0, marks, 0, marks.length);
            }
        }

        int filled() {
            int sum = 0;
            for (int i = 0; i < marks.length; i++) {
                sum += Long.bitCount(marks[i]);
            }
            return sum;
        }

        boolean isSame(Cells other, int i) {
            return has(i) == other.has(i) && number(i) == other.number(i);
        }

        int differing(Cells other) {
            int sum = 0;
            for (int i = 0; i < numbers.length; i++) {
                if (!isSame(other, i)) {
                    sum++;
                }
            }
            return sum;
        }
    }

    /** A box of the array; where its cells stand is worked out once, for all versions that are coded by it. */
    private static final class Chunk {
        static final int SIDE = 4;
        private static final int OCTETS_OF_HEAD = 8;
        private static final int OCTETS_OF_RUN = 1;
        private static final int MOST_OCTETS_OF_NUMBER = 10;

        private final int[] places;

        Chunk(Shape shape, int x, int y, int z) {
            int endX = Math.min(x + SIDE - 1, shape.high(0));
            int endY = Math.min(y + SIDE - 1, shape.high(1));
            int endZ = Math.min(z + SIDE - 1, shape.high(2));
            int size = (endX - x + 1) * (endY - y + 1) * (endZ - z + 1);
            places = new int[Math.max(size, 0)];
            int next = 0;
            for (int i = x; i <= endX; i++) {
                for (int j = y; j <= endY; j++) {
                    for (int k = z; k <= endZ && next < places.length; k++) {
                        places[next] = shape.indexOf(i, j, k);
                        next++;
                    }
                }
            }
        }

        boolean isSame(Cells a, Cells b) {
            for (int i = 0; i < places.length; i++) {
                if (!a.isSame(b, places[i])) {
                    return false;
                }
            }
            return true;
        }

        int octets(Cells cells) {
            int sum = OCTETS_OF_HEAD;
            boolean first = true;
            long before = 0;
            for (int i = 0; i < places.length; i++) {
                if (cells.has(places[i])) {
                    long number = cells.number(places[i]);
                    if (first || number != before) {
                        sum += OCTETS_OF_RUN + octetsOf(number - before);
                        before = number;
                        first = false;
                    }
                }
            }
            return sum;
        }

        private static int octetsOf(long difference) {
            long rest = (difference << 1) ^ (difference >> 63);
            int octets = 1;
            while (octets < MOST_OCTETS_OF_NUMBER && rest >>> 7 != 0) {
                rest >>>= 7;
                octets++;
            }
            return octets;
        }
    }

    /**
     * An array whose cells are worked out one by one, when they are first asked for. A node is made of nodes that
     * stand before it and no chain of them is longer than MOST_DEPTH: so the calls down to its sources have an end.
     */
    private abstract static class Node {
        private final Shape shape;
        private final int depth;
        private final Cells cells;
        private final long[] asked;

        Node(Shape shape, int depth) {
            this.shape = shape;
            this.depth = depth;
            cells = new Cells(shape.size());
            asked = new long[Math.max((shape.size() + 63) / 64, 0)];
        }

        /** Settles the cell at an index of the row, or leaves it empty; called once for each. */
        abstract void work(int index);

        final Shape form() {
            return shape;
        }

        final int depth() {
            return depth;
        }

        final Cells cells() {
            return cells;
        }

        final void settle(int index, long number) {
            cells.set(index, number);
        }

        final boolean holds(int index) {
            int word = index >> 6;
            if (!cells.isInside(index) || word >= asked.length) {
                return false;
            }
            long bit = 1L << (index & 63);
            if ((asked[word] & bit) == 0) {
                asked[word] |= bit;
                work(index);
            }
            return cells.has(index);
        }

        /** What a cell has of which holds has said that it is not empty. */
        final long number(int index) {
            return cells.number(index);
        }

        final int filled() {
            int size = shape.size();
            int sum = 0;
            for (int i = 0; i < size; i++) {
                if (holds(i)) {
                    sum++;
                }
            }
            return sum;
        }
    }

    /** A version never changes, so it is the very node that reading it makes. */
    private static final class Version extends Node {
        static final int NO_PARENT = -1;

        private final int parent;
        private int differingChunks;
        private int octets;

        Version(Shape shape, int parent) {
            super(shape, 1);
            this.parent = parent;
        }

        void encode(Cells desk, Version before, List<Chunk> chunks) {
            cells().copyFrom(desk);
            for (int i = 0; i < chunks.size(); i++) {
                Chunk chunk = chunks.get(i);
                if (!chunk.isSame(desk, before.cells())) {
                    differingChunks++;
                    octets += chunk.octets(desk);
                }
            }
        }

        @Override
        void work(int index) {
            // Nothing is left to work out: encode has copied every cell.
        }

        int parent() {
            return parent;
        }

        int differingChunks() {
            return differingChunks;
        }

        int octets() {
            return octets;
        }
    }

    /** sub, slice, extend and swap: each cell is one of the source, or lies outside it. */
    private static final class View extends Node {
        private static final int FIXED = -1;

        private final Node source;
        /** For each dimension of the source: the own dimension that tells the place in it, or FIXED. */
        private final int[] tellers;
        private final int at;

        View(Shape shape, Node source, int[] tellers, int at) {
            super(shape, source.depth() + 1);
            this.source = source;
            this.tellers = tellers;
            this.at = at;
        }

        static int[] straight() {
            return new int[] {0, 1, 2};
        }

        static int[] skipping(int d) {
            int[] tellers = straight();
            for (int i = 0; i < tellers.length; i++) {
                if (i == d) {
                    tellers[i] = FIXED;
                } else if (i > d) {
                    tellers[i] = i - 1;
                }
            }
            return tellers;
        }

        static int[] exchanging(int d, int e) {
            int[] tellers = straight();
            if (d >= 0 && d < tellers.length && e >= 0 && e < tellers.length) {
                tellers[d] = e;
                tellers[e] = d;
            }
            return tellers;
        }

        @Override
        void work(int index) {
            int from = source.form().indexOf(sourcePlace(0, index), sourcePlace(1, index), sourcePlace(2, index));
            if (source.holds(from)) {
                settle(index, source.number(from));
            }
        }

        private int sourcePlace(int d, int index) {
            int teller = d >= 0 && d < tellers.length ? tellers[d] : FIXED;
            return teller == FIXED ? at : form().placeOf(index, teller);
        }
    }

    /** apply and filter: each cell comes of the one at the same place by a rule and a number. */
    private static final class Each extends Node {
        static final int CHANGES = 6;
        static final int RELATIONS = 4;
        private static final int PLUS = 0;
        private static final int TIMES = 1;
        private static final int DIVIDED = 2;
        private static final int REMAINDER = 3;
        private static final int TAKEN_FROM = 4;
        private static final int DIVIDING = 5;

        private final Node source;
        private final int rule;
        private final long c;

        /** A rule from CHANGES on is a relation: its number is behind theirs. */
        Each(Node source, int rule, long c) {
            super(source.form(), source.depth() + 1);
            this.source = source;
            this.rule = rule;
            this.c = c;
        }

        @Override
        void work(int index) {
            if (!source.holds(index)) {
                return;
            }
            long v = source.number(index);
            if (rule < CHANGES) {
                change(index, v);
            } else if (isKept(v)) {
                settle(index, v);
            }
        }

        private void change(int index, long v) {
            switch (rule) {
                case PLUS:
                    settle(index, v + c);
                    break;
                case TIMES:
                    settle(index, v * c);
                    break;
                case DIVIDED:
                    if (c != 0) {
                        settle(index, v / c);
                    }
                    break;
                case REMAINDER:
                    if (c != 0) {
                        settle(index, v % c);
                    }
                    break;
                case TAKEN_FROM:
                    settle(index, c - v);
                    break;
                case DIVIDING:
                    if (v != 0) {
                        settle(index, c / v);
                    }
                    break;
                default:
                    break;
            }
        }

        private boolean isKept(long v) {
            switch (rule - CHANGES) {
                case 0:
                    return v == c;
                case 1:
                    return v != c;
                case 2:
                    return v < c;
                default:
                    return v >= c;
            }
        }
    }

    /** join: places that both sources have. */
    private static final class Joined extends Node {
        static final int OPERATIONS = 6;

        private final Node first;
        private final Node second;
        private final int op;

        Joined(Shape shape, Node first, Node second, int op) {
            super(shape, Math.max(first.depth(), second.depth()) + 1);
            this.first = first;
            this.second = second;
            this.op = op;
        }

        @Override
        void work(int index) {
            int x = form().placeOf(index, 0);
            int y = form().placeOf(index, 1);
            int z = form().placeOf(index, 2);
            int i = first.form().indexOf(x, y, z);
            int j = second.form().indexOf(x, y, z);
            if (first.holds(i) && second.holds(j)) {
                settle(index, joined(first.number(i), second.number(j)));
            }
        }

        private long joined(long v, long w) {
            switch (op) {
                case 0:
                    return v + w;
                case 1:
                    return v - w;
                case 2:
                    return v * w;
                case 3:
                    return Math.min(v, w);
                case 4:
                    return Math.max(v, w);
                default:
                    return v;
            }
        }
    }

    /** gather, regrid and window: each cell takes together a stretch of the source along d. */
    private static final class Folded extends Node {
        static final int GATHER = 0;
        static final int REGRID = 1;
        static final int WINDOW = 2;

        private final Node source;
        private final int d;
        private final int kind;
        private final int reach;
        private final Tally tally;

        Folded(Shape shape, Node source, int d, int kind, int reach, Tally tally) {
            super(shape, source.depth() + 1);
            this.source = source;
            this.d = d;
            this.kind = kind;
            this.reach = reach;
            this.tally = tally;
        }

        @Override
        void work(int index) {
            int from = Math.max(source.form().low(d), firstPlace(index));
            int to = Math.min(source.form().high(d), lastPlace(index));
            int start = source.form().indexOf(sourcePlace(0, index, from), sourcePlace(1, index, from),
                    sourcePlace(2, index, from));
            tally.takeRow(source, start, source.form().step(d), to - from + 1);
            if (!tally.isOfNone()) {
                settle(index, tally.result());
            }
        }

        private int firstPlace(int index) {
            switch (kind) {
                case REGRID:
                    return form().placeOf(index, d) * reach;
                case WINDOW:
                    return form().placeOf(index, d) - reach;
                default:
                    return source.form().low(d);
            }
        }

        private int lastPlace(int index) {
            switch (kind) {
                case REGRID:
                    return form().placeOf(index, d) * reach + reach - 1;
                case WINDOW:
                    return form().placeOf(index, d) + reach;
                default:
                    return source.form().high(d);
            }
        }

        private int sourcePlace(int dimension, int index, int from) {
            if (dimension == d) {
                return from;
            }
            boolean movedUp = kind == GATHER && dimension > d;
            return form().placeOf(index, movedUp ? dimension - 1 : dimension);
        }
    }

    /** product: the sum over the places that the left's last dimension and the right's first one share. */
    private static final class Product extends Node {
        private final Node left;
        private final Node right;

        Product(Shape shape, Node left, Node right) {
            super(shape, Math.max(left.depth(), right.depth()) + 1);
            this.left = left;
            this.right = right;
        }

        @Override
        void work(int index) {
            int i = form().placeOf(index, 0);
            int j = form().placeOf(index, 1);
            int from = Math.max(left.form().low(1), right.form().low(0));
            int to = Math.min(left.form().high(1), right.form().high(0));
            int p = left.form().indexOf(i, from, 0);
            int q = right.form().indexOf(from, j, 0);
            boolean any = false;
            long sum = 0;
            for (int k = from; k <= to; k++) {
                if (left.holds(p) && right.holds(q)) {
                    sum += left.number(p) * right.number(q);
                    any = true;
                }
                p += left.form().step(1);
                q += right.form().step(0);
            }
            if (any) {
                settle(index, sum);
            }
        }
    }

    /** Takes numbers together; each node that does so has one of its own, for another may be at work below it. */
    private static final class Tally {
        private static final int SUM = 0;
        private static final int HOW_MANY = 1;
        private static final int LEAST = 2;
        private static final int GREATEST = 3;

        private final int what;
        private int taken;
        private long result;

        Tally(int what) {
            this.what = what;
        }

        static boolean isKnown(int what) {
            return what >= SUM && what <= GREATEST;
        }

        void takeRow(Node node, int start, int step, int times) {
            taken = 0;
            result = 0;
            for (int i = 0; i < times; i++) {
                int index = start + i * step;
                if (node.holds(index)) {
                    take(node.number(index));
                }
            }
        }

        private void take(long number) {
            switch (what) {
                case SUM:
                    result += number;
                    break;
                case HOW_MANY:
                    result++;
                    break;
                case LEAST:
                    result = taken == 0 ? number : Math.min(result, number);
                    break;
                default:
                    result = taken == 0 ? number : Math.max(result, number);
                    break;
            }
            taken++;
        }

        boolean isOfNone() {
            return taken == 0;
        }

        long result() {
            return result;
        }
    }
}

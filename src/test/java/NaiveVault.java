import java.util.ArrayList;
import java.util.HashSet;
import java.util.List;
import java.util.Map;
import java.util.Objects;
import java.util.Random;
import java.util.Set;
import java.util.TreeMap;

/** The document again, by other means: whole arrays as maps from places to numbers, each made at once. */
final class NaiveVault {
    /** Places compare in order, the last dimension fastest. */
    record Place(List<Integer> at) implements Comparable<Place> {
        @Override
        public int compareTo(Place other) {
            for (int d = 0; d < at.size(); d++) {
                int order = Integer.compare(at.get(d), other.at.get(d));
                if (order != 0) {
                    return order;
                }
            }
            return 0;
        }

        Place with(int d, int value) {
            List<Integer> made = new ArrayList<>(at);
            made.set(d, value);
            return new Place(made);
        }

        Place without(int d) {
            List<Integer> made = new ArrayList<>(at);
            made.remove(d);
            return new Place(made);
        }
    }

    record Array(List<int[]> ranges, int depth, TreeMap<Place, Long> cells) {
        int dimensions() {
            return ranges.size();
        }

        boolean has(int d) {
            return d >= 0 && d < dimensions();
        }

        boolean has(int d, int place) {
            return has(d) && place >= ranges.get(d)[0] && place <= ranges.get(d)[1];
        }
    }

    record Version(int parent, int chunks, int octets, TreeMap<Place, Long> cells) {
    }

    private List<int[]> ranges;
    private TreeMap<Place, Long> desk;
    private int deskVersion;
    private int begins;
    private List<Version> versions;
    private List<Array> nodes;

    NaiveVault() {
        anew(List.of(new int[] {0, 0}));
    }

    private void anew(List<int[]> made) {
        ranges = made;
        desk = new TreeMap<>();
        deskVersion = 0;
        versions = new ArrayList<>();
        versions.add(new Version(-1, 0, 0, new TreeMap<>()));
        nodes = new ArrayList<>();
    }

    void begin(int n, int... ends) {
        if (begins == 2) {
            throw new IllegalStateException();
        }
        need(n >= 1 && n <= 3);
        List<int[]> made = new ArrayList<>();
        for (int d = 0; d < n; d++) {
            long low = ends[2 * d];
            long high = ends[2 * d + 1];
            need(low >= -100 && low <= 100 && high >= -100 && high <= 100 && low <= high && high - low + 1 <= 16);
            made.add(new int[] {(int) low, (int) high});
        }
        begins++;
        anew(made);
    }

    /** For the test's own use: an end of the array's dimension, 0 if there is none. */
    int end(int d, int which) {
        return d < ranges.size() ? ranges.get(d)[which] : 0;
    }

    /** For the test's own use: a place of a node that is not empty, if there is one. */
    int[] filledPlace(int node, Random chance) {
        int[] found = new int[3];
        if (node >= 0 && node < nodes.size() && !nodes.get(node).cells().isEmpty()) {
            List<Place> all = new ArrayList<>(nodes.get(node).cells().keySet());
            Place one = all.get(chance.nextInt(all.size()));
            for (int d = 0; d < one.at().size(); d++) {
                found[d] = one.at().get(d);
            }
        }
        return found;
    }

    private static void need(boolean holds) {
        if (!holds) {
            throw new IllegalArgumentException();
        }
    }

    private static Place place(List<int[]> ranges, int... at) {
        List<Integer> made = new ArrayList<>();
        for (int d = 0; d < ranges.size(); d++) {
            if (at[d] < ranges.get(d)[0] || at[d] > ranges.get(d)[1]) {
                throw new IndexOutOfBoundsException();
            }
            made.add(at[d]);
        }
        return new Place(made);
    }

    private static List<Place> places(List<int[]> ranges) {
        List<Place> all = new ArrayList<>();
        all.add(new Place(List.of()));
        for (int[] range : ranges) {
            List<Place> longer = new ArrayList<>();
            for (Place p : all) {
                for (int i = range[0]; i <= range[1]; i++) {
                    List<Integer> at = new ArrayList<>(p.at());
                    at.add(i);
                    longer.add(new Place(at));
                }
            }
            all = longer;
        }
        return all;
    }

    void put(int x, int y, int z, long v) {
        desk.put(place(ranges, x, y, z), v);
    }

    void erase(int x, int y, int z) {
        desk.remove(place(ranges, x, y, z));
    }

    void fill(int d, int low, int high, long v) {
        need(d >= 0 && d < ranges.size() && low <= high && low >= ranges.get(d)[0] && high <= ranges.get(d)[1]);
        for (Place p : places(ranges)) {
            if (p.at().get(d) >= low && p.at().get(d) <= high) {
                desk.put(p, v);
            }
        }
    }

    int commit() {
        if (versions.size() == 41) {
            throw new IndexOutOfBoundsException();
        }
        Set<List<Integer>> changed = new HashSet<>();
        for (Place p : places(ranges)) {
            if (!Objects.equals(desk.get(p), versions.get(deskVersion).cells().get(p))) {
                changed.add(chunk(p));
            }
        }
        int octets = 0;
        for (List<Integer> chunk : changed) {
            octets += 8;
            Long run = null;
            for (Map.Entry<Place, Long> cell : desk.entrySet()) {
                if (chunk(cell.getKey()).equals(chunk) && !cell.getValue().equals(run)) {
                    octets += 1 + octets(cell.getValue() - (run == null ? 0 : run));
                    run = cell.getValue();
                }
            }
        }
        versions.add(new Version(deskVersion, changed.size(), octets, new TreeMap<>(desk)));
        deskVersion = versions.size() - 1;
        return deskVersion;
    }

    private List<Integer> chunk(Place p) {
        List<Integer> made = new ArrayList<>();
        for (int d = 0; d < ranges.size(); d++) {
            made.add((p.at().get(d) - ranges.get(d)[0]) / 4);
        }
        return made;
    }

    private static int octets(long d) {
        String bits = Long.toBinaryString((d << 1) ^ (d >> 63));
        return (bits.length() + 6) / 7;
    }

    private Version versionAt(int number) {
        need(number >= 0 && number < versions.size());
        return versions.get(number);
    }

    void open(int version) {
        desk = new TreeMap<>(versionAt(version).cells());
        deskVersion = version;
    }

    int version(int version, int what) {
        Version v = versionAt(version);
        need(what >= 0 && what <= 3);
        return new int[] {v.parent(), v.chunks(), v.octets(), v.cells().size()}[what];
    }

    int differ(int a, int b) {
        return differing(versionAt(a).cells(), versionAt(b).cells());
    }

    private static int differing(Map<Place, Long> a, Map<Place, Long> b) {
        Set<Place> all = new HashSet<>(a.keySet());
        all.addAll(b.keySet());
        int sum = 0;
        for (Place p : all) {
            sum += Objects.equals(a.get(p), b.get(p)) ? 0 : 1;
        }
        return sum;
    }

    private void room() {
        if (nodes.size() == 150) {
            throw new IndexOutOfBoundsException();
        }
    }

    private Array nodeAt(int number) {
        need(number >= 0 && number < nodes.size());
        return nodes.get(number);
    }

    private int keep(Array made) {
        nodes.add(made);
        return nodes.size() - 1;
    }

    /** The limits are looked at before the cells are made. */
    private static Array made(List<int[]> ranges, Array... sources) {
        int depth = 0;
        for (Array source : sources) {
            depth = Math.max(depth, source.depth());
        }
        long cells = 1;
        boolean beyond = depth + 1 > 40;
        for (int[] range : ranges) {
            beyond |= range[1] - range[0] + 1 > 40;
            cells *= range[1] - range[0] + 1;
        }
        if (beyond || cells > 2048) {
            throw new UnsupportedOperationException();
        }
        return new Array(ranges, depth + 1, new TreeMap<>());
    }

    private static List<int[]> ranged(Array a, int d, int low, int high) {
        List<int[]> made = new ArrayList<>(a.ranges());
        made.set(d, new int[] {low, high});
        return made;
    }

    private static List<int[]> without(Array a, int d) {
        List<int[]> made = new ArrayList<>(a.ranges());
        made.remove(d);
        return made;
    }

    int read(int version) {
        room();
        return keep(new Array(ranges, 1, versionAt(version).cells()));
    }

    int sub(int a, int d, int low, int high) {
        room();
        Array s = nodeAt(a);
        need(s.has(d, low) && s.has(d, high) && low <= high);
        Array made = made(ranged(s, d, low, high), s);
        s.cells().forEach((p, v) -> {
            if (made.has(d, p.at().get(d))) {
                made.cells().put(p, v);
            }
        });
        return keep(made);
    }

    int slice(int a, int d, int at) {
        room();
        Array s = nodeAt(a);
        need(s.dimensions() > 1 && s.has(d, at));
        Array made = made(without(s, d), s);
        s.cells().forEach((p, v) -> {
            if (p.at().get(d) == at) {
                made.cells().put(p.without(d), v);
            }
        });
        return keep(made);
    }

    int extend(int a, int d, int low, int high) {
        room();
        Array s = nodeAt(a);
        need(s.has(d) && low <= s.ranges().get(d)[0] && high >= s.ranges().get(d)[1] && low >= -1000 && high <= 1000);
        Array made = made(ranged(s, d, low, high), s);
        made.cells().putAll(s.cells());
        return keep(made);
    }

    int apply(int a, int op, long c) {
        room();
        Array s = nodeAt(a);
        need(op >= 0 && op <= 5);
        Array made = made(s.ranges(), s);
        s.cells().forEach((p, v) -> {
            boolean byNone = (op == 2 || op == 3) && c == 0 || op == 5 && v == 0;
            if (!byNone) {
                made.cells().put(p, op == 0 ? v + c : op == 1 ? v * c : op == 2 ? v / c : op == 3 ? v % c
                        : op == 4 ? c - v : c / v);
            }
        });
        return keep(made);
    }

    int filter(int a, int relation, long c) {
        room();
        Array s = nodeAt(a);
        need(relation >= 0 && relation <= 3);
        Array made = made(s.ranges(), s);
        s.cells().forEach((p, v) -> {
            if (new boolean[] {v == c, v != c, v < c, v >= c}[relation]) {
                made.cells().put(p, v);
            }
        });
        return keep(made);
    }

    int join(int a, int b, int op) {
        room();
        Array s = nodeAt(a);
        Array t = nodeAt(b);
        need(op >= 0 && op <= 5 && s.dimensions() == t.dimensions());
        List<int[]> both = new ArrayList<>();
        for (int d = 0; d < s.dimensions(); d++) {
            int low = Math.max(s.ranges().get(d)[0], t.ranges().get(d)[0]);
            int high = Math.min(s.ranges().get(d)[1], t.ranges().get(d)[1]);
            need(low <= high);
            both.add(new int[] {low, high});
        }
        Array made = made(both, s, t);
        s.cells().forEach((p, v) -> {
            Long w = t.cells().get(p);
            if (w != null) {
                made.cells().put(p, new long[] {v + w, v - w, v * w, Math.min(v, w), Math.max(v, w), v}[op]);
            }
        });
        return keep(made);
    }

    private static Long together(List<Long> numbers, int what) {
        if (numbers.isEmpty()) {
            return null;
        }
        return switch (what) {
            case 0 -> numbers.stream().mapToLong(Long::longValue).sum();
            case 1 -> (long) numbers.size();
            case 2 -> numbers.stream().mapToLong(Long::longValue).min().getAsLong();
            default -> numbers.stream().mapToLong(Long::longValue).max().getAsLong();
        };
    }

    private static void takeTogether(Array made, Map<Place, List<Long>> parts, int what) {
        parts.forEach((p, numbers) -> made.cells().put(p, together(numbers, what)));
    }

    int gather(int a, int d, int what) {
        room();
        Array s = nodeAt(a);
        need(s.has(d) && s.dimensions() > 1 && what >= 0 && what <= 3);
        Array made = made(without(s, d), s);
        Map<Place, List<Long>> parts = new TreeMap<>();
        s.cells().forEach((p, v) -> parts.computeIfAbsent(p.without(d), q -> new ArrayList<>()).add(v));
        takeTogether(made, parts, what);
        return keep(made);
    }

    int regrid(int a, int d, int k, int what) {
        room();
        Array s = nodeAt(a);
        need(s.has(d) && k >= 1 && k <= 40 && what >= 0 && what <= 3);
        int[] range = s.ranges().get(d);
        Array made = made(ranged(s, d, downwards(range[0], k), downwards(range[1], k)), s);
        Map<Place, List<Long>> parts = new TreeMap<>();
        s.cells().forEach((p, v) ->
                parts.computeIfAbsent(p.with(d, downwards(p.at().get(d), k)), q -> new ArrayList<>()).add(v));
        takeTogether(made, parts, what);
        return keep(made);
    }

    private static int downwards(int x, int k) {
        int cut = x / k;
        return cut * k > x ? cut - 1 : cut;
    }

    int window(int a, int d, int r, int what) {
        room();
        Array s = nodeAt(a);
        need(s.has(d) && r >= 0 && r <= 40 && what >= 0 && what <= 3);
        Array made = made(s.ranges(), s);
        Map<Place, List<Long>> parts = new TreeMap<>();
        s.cells().forEach((p, v) -> {
            for (int i = p.at().get(d) - r; i <= p.at().get(d) + r; i++) {
                if (s.has(d, i)) {
                    parts.computeIfAbsent(p.with(d, i), q -> new ArrayList<>()).add(v);
                }
            }
        });
        takeTogether(made, parts, what);
        return keep(made);
    }

    int swap(int a, int d, int e) {
        room();
        Array s = nodeAt(a);
        need(s.has(d) && s.has(e));
        List<int[]> turned = new ArrayList<>(s.ranges());
        turned.set(d, s.ranges().get(e));
        turned.set(e, s.ranges().get(d));
        Array made = made(turned, s);
        s.cells().forEach((p, v) -> made.cells().put(p.with(d, p.at().get(e)).with(e, p.at().get(d)), v));
        return keep(made);
    }

    int product(int a, int b) {
        room();
        Array s = nodeAt(a);
        Array t = nodeAt(b);
        need(s.dimensions() == 2 && t.dimensions() == 2);
        Array made = made(List.of(s.ranges().get(0), t.ranges().get(1)), s, t);
        s.cells().forEach((p, v) -> t.cells().forEach((q, w) -> {
            if (p.at().get(1).equals(q.at().get(0))) {
                made.cells().merge(new Place(List.of(p.at().get(0), q.at().get(1))), v * w, Long::sum);
            }
        }));
        return keep(made);
    }

    int shape(int node, int what) {
        Array s = nodeAt(node);
        need(what >= 0 && what <= 8);
        if (what == 0) {
            return s.dimensions();
        }
        if (what == 1) {
            return s.depth();
        }
        if (what == 8) {
            return s.cells().size();
        }
        int d = (what - 2) / 2;
        return d < s.dimensions() ? s.ranges().get(d)[what % 2] : 0;
    }

    long cell(int node, int x, int y, int z) {
        Array s = nodeAt(node);
        Long v = s.cells().get(place(s.ranges(), x, y, z));
        if (v == null) {
            throw new UnsupportedOperationException();
        }
        return v;
    }

    long all(int node, int what) {
        Array s = nodeAt(node);
        need(what >= 0 && what <= 3);
        Long v = together(new ArrayList<>(s.cells().values()), what);
        if (v == null) {
            throw new UnsupportedOperationException();
        }
        return v;
    }

    int count(int what) {
        need(what >= 0 && what <= 3);
        return new int[] {versions.size(), nodes.size(), deskVersion,
            differing(desk, versions.get(deskVersion).cells())}[what];
    }
}

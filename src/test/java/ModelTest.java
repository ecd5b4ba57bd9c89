import java.util.Random;
import java.util.function.Supplier;

/** Promises 1 to 25: runs of calls by chance (always the same ones), answered by GridVault and by NaiveVault. */
public final class ModelTest {
    private static final int RUNS = 250;
    private static final int CALLS = 512;
    private static final long[] NUMBERS = {0, 1, -1, 2, 3, -5, 7, 63, 64, -64, -65, 1000, 1L << 40, Long.MIN_VALUE,
        Long.MAX_VALUE};

    private final Random chance;
    private final GridVault vault = new GridVault();
    private final NaiveVault model = new NaiveVault();
    private final int run;
    private final int[] deskLow = {0, 0, 0};
    private final int[] deskHigh = {0, 0, 0};
    private int calls;

    private ModelTest(int run) {
        this.run = run;
        chance = new Random(run);
    }

    public static void main(String[] args) {
        for (int run = 0; run < RUNS; run++) {
            new ModelTest(run).go();
        }
        Check.end();
    }

    private void go() {
        if (chance.nextInt(10) != 0) {
            begin();
        }
        for (int i = 0; i < 25; i++) {
            deskCall();
        }
        same("commit", () -> vault.commit(), () -> model.commit());
        same("read", () -> vault.read(model.count(2)), () -> model.read(model.count(2)));
        while (calls < CALLS) {
            int kind = chance.nextInt(100);
            if (kind < 25) {
                deskCall();
            } else if (kind < 35) {
                versionCall();
            } else if (kind < 60) {
                makeOfOne();
            } else if (kind < 66) {
                makeOfTwo();
            } else if (kind == 66 && chance.nextInt(8) == 0) {
                begin();
            } else {
                ask();
            }
        }
    }

    private void same(String call, Supplier<Object> got, Supplier<Object> want) {
        calls++;
        String due = answer(want);
        String is = answer(got);
        Check.due("run " + run + ": " + call + ": " + is + ", due is " + due, is.equals(due));
    }

    private static String answer(Supplier<Object> call) {
        try {
            return String.valueOf(call.get());
        } catch (RuntimeException e) {
            return e.getClass().getSimpleName();
        }
    }

    private void same(String call, Runnable got, Runnable want) {
        same(call, () -> {
            got.run();
            return "nothing";
        }, () -> {
            want.run();
            return "nothing";
        });
    }

    private int among(int low, int high) {
        return low + chance.nextInt(high - low + 1);
    }

    /** Mostly from low to high, now and then beside it or far away. */
    private int about(int low, int high) {
        switch (chance.nextInt(30)) {
            case 0:
                return low - 1;
            case 1:
                return high + 1;
            case 2:
                return chance.nextInt();
            default:
                return among(low, Math.max(low, high));
        }
    }

    private long number() {
        return chance.nextInt(4) == 0 ? NUMBERS[chance.nextInt(NUMBERS.length)] : among(-3, 9);
    }

    /** A place of a node's dimension, where it has one. */
    private int placeOf(int node, int d) {
        if (node < 0 || node >= model.count(1) || d < 0 || d > 2) {
            return chance.nextInt();
        }
        return about(model.shape(node, 2 + 2 * d), model.shape(node, 3 + 2 * d));
    }

    private int node() {
        int nodes = model.count(1);
        int low = chance.nextBoolean() ? 0 : Math.max(0, nodes - 5);
        return about(low, Math.max(0, nodes - 1));
    }

    private int dimension() {
        return chance.nextInt(25) == 0 ? about(0, 2) : chance.nextInt(4) == 0 ? among(0, 2) : chance.nextInt(2);
    }

    private void begin() {
        int n = about(1, 3);
        int most = chance.nextInt(12) == 0 ? 16 : n == 3 ? 6 : 10;
        int[] low = new int[3];
        int[] high = new int[3];
        for (int d = 0; d < 3; d++) {
            low[d] = chance.nextInt(6) == 0 ? about(-100, 100) : among(-12, 3);
            high[d] = chance.nextInt(20) == 0 ? chance.nextInt() : low[d] + among(0, most - 1);
        }
        same("begin", () -> vault.begin(n, low[0], high[0], low[1], high[1], low[2], high[2]),
                () -> model.begin(n, low[0], high[0], low[1], high[1], low[2], high[2]));
        for (int d = 0; d < 3; d++) {
            deskLow[d] = model.end(d, 0);
            deskHigh[d] = model.end(d, 1);
        }
    }

    private int deskPlace(int d) {
        return about(deskLow[d], deskHigh[d]);
    }

    private void deskCall() {
        int x = deskPlace(0);
        int y = deskPlace(1);
        int z = deskPlace(2);
        long v = number();
        int d = dimension();
        int e = Math.max(0, Math.min(2, d));
        int low = deskPlace(e);
        int high = chance.nextInt(6) == 0 ? deskPlace(e) : Math.max(low, Math.min(deskHigh[e], low + among(0, 3)));
        switch (chance.nextInt(6)) {
            case 0:
                same("erase", () -> vault.erase(x, y, z), () -> model.erase(x, y, z));
                break;
            case 1:
            case 2:
                same("fill " + d + " " + low + " " + high, () -> vault.fill(d, low, high, v), () -> model.fill(d, low, high, v));
                break;
            default:
                same("put " + x + " " + y + " " + z, () -> vault.put(x, y, z, v), () -> model.put(x, y, z, v));
                break;
        }
    }

    private void versionCall() {
        int a = about(0, model.count(0) - 1);
        int b = about(0, model.count(0) - 1);
        int what = about(0, 3);
        switch (chance.nextInt(6)) {
            case 0:
                same("open " + a, () -> vault.open(a), () -> model.open(a));
                break;
            case 1:
            case 2:
                same("commit", () -> vault.commit(), () -> model.commit());
                break;
            case 3:
                same("differ " + a + " " + b, () -> vault.differ(a, b), () -> model.differ(a, b));
                break;
            default:
                same("version " + a + " " + what, () -> vault.version(a, what), () -> model.version(a, what));
                break;
        }
    }

    private void makeOfOne() {
        int a = node();
        int d = dimension();
        int p = placeOf(a, d);
        int q = placeOf(a, d);
        int what = about(0, 3);
        int op = about(0, 5);
        long c = number();
        String name = a + " " + d + " " + p + " " + q + " " + what + " " + op + " " + c;
        switch (chance.nextInt(10)) {
            case 0:
                int low = chance.nextInt(3) == 0 ? p : Math.min(p, q);
                int high = chance.nextInt(3) == 0 ? q : Math.max(p, q);
                same("sub " + name, () -> vault.sub(a, d, low, high), () -> model.sub(a, d, low, high));
                break;
            case 1:
                same("slice " + name, () -> vault.slice(a, d, p), () -> model.slice(a, d, p));
                break;
            case 2:
                extend(a, d);
                break;
            case 3:
                same("apply " + name, () -> vault.apply(a, op, c), () -> model.apply(a, op, c));
                break;
            case 4:
                same("filter " + name, () -> vault.filter(a, what, c), () -> model.filter(a, what, c));
                break;
            case 5:
                same("gather " + name, () -> vault.gather(a, d, what), () -> model.gather(a, d, what));
                break;
            case 6:
                int k = chance.nextInt(5) == 0 ? about(1, 40) : among(1, 4);
                same("regrid " + k + " " + name, () -> vault.regrid(a, d, k, what), () -> model.regrid(a, d, k, what));
                break;
            case 7:
                int r = chance.nextInt(5) == 0 ? about(0, 40) : among(0, 3);
                same("window " + r + " " + name, () -> vault.window(a, d, r, what), () -> model.window(a, d, r, what));
                break;
            case 8:
                int e = dimension();
                same("swap " + e + " " + name, () -> vault.swap(a, d, e), () -> model.swap(a, d, e));
                break;
            default:
                int version = about(Math.min(1, model.count(0) - 1), model.count(0) - 1);
                same("read " + version, () -> vault.read(version), () -> model.read(version));
                break;
        }
    }

    private void extend(int a, int d) {
        boolean known = a >= 0 && a < model.count(1) && d >= 0 && d < 3;
        int low = known ? model.shape(a, 2 + 2 * d) : 0;
        int high = known ? model.shape(a, 3 + 2 * d) : 0;
        int most = chance.nextInt(10) == 0 ? 1100 : chance.nextInt(4) == 0 ? 40 : 4;
        int from = low - among(chance.nextInt(20) == 0 ? -1 : 0, most);
        int to = high + among(chance.nextInt(20) == 0 ? -1 : 0, most);
        same("extend " + a + " " + d + " " + from + " " + to, () -> vault.extend(a, d, from, to),
                () -> model.extend(a, d, from, to));
    }

    private void makeOfTwo() {
        int a = node();
        int b = node();
        int op = about(0, 5);
        if (chance.nextInt(3) == 0) {
            same("product " + a + " " + b, () -> vault.product(a, b), () -> model.product(a, b));
        } else {
            same("join " + a + " " + b + " " + op, () -> vault.join(a, b, op), () -> model.join(a, b, op));
        }
    }

    private void ask() {
        int a = node();
        int what = about(0, 8);
        int x = placeOf(a, 0);
        int y = placeOf(a, 1);
        int z = placeOf(a, 2);
        int[] p = model.filledPlace(a, chance);
        switch (chance.nextInt(8)) {
            case 0:
                same("shape " + a + " " + what, () -> vault.shape(a, what), () -> model.shape(a, what));
                break;
            case 1:
                same("all " + a + " " + what / 2, () -> vault.all(a, what / 2), () -> model.all(a, what / 2));
                break;
            case 2:
                same("count " + what / 2, () -> vault.count(what / 2), () -> model.count(what / 2));
                break;
            case 3:
            case 4:
            case 5:
                same("filled cell of " + a, () -> vault.cell(a, p[0], p[1], p[2]), () -> model.cell(a, p[0], p[1], p[2]));
                break;
            default:
                same("cell " + a + " " + x + " " + y + " " + z, () -> vault.cell(a, x, y, z), () -> model.cell(a, x, y, z));
                break;
        }
    }
}

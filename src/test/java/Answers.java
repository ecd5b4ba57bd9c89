import java.util.ArrayList;
import java.util.List;
import java.util.function.LongSupplier;

/**
 * What an object answers when it is asked for all that it has. It is used up by that: its desk is committed and read,
 * and it is begun anew as often as it lets itself be.
 */
final class Answers {
    private static final long NONE = Long.MIN_VALUE + 17;
    private static final int FIRST_FEW = 8;
    private static final int LAST_FEW = 3;
    private static final int MOST_CELLS = 40;

    private final GridVault x;
    private final List<String> answers = new ArrayList<>();

    private Answers(GridVault x) {
        this.x = x;
    }

    static String[] of(GridVault x) {
        Answers made = new Answers(x);
        made.counts();
        made.versions();
        made.nodes();
        made.desk();
        made.begins();
        return made.answers.toArray(new String[0]);
    }

    private long ask(String call, LongSupplier asked) {
        try {
            long answer = asked.getAsLong();
            answers.add(call + " answers " + answer);
            return answer;
        } catch (RuntimeException e) {
            answers.add(call + " throws " + e.getClass().getSimpleName());
            return NONE;
        }
    }

    /** An object is asked for some 400 answers at the most, so that no test uses one for over 512 calls. */
    private static boolean isAsked(int i, long many) {
        return i < FIRST_FEW || i >= many - LAST_FEW;
    }

    private void counts() {
        for (int what = 0; what < 4; what++) {
            int w = what;
            ask("count(" + w + ")", () -> x.count(w));
        }
    }

    private void versions() {
        int many = x.count(0);
        for (int v = 0; v < many; v++) {
            if (isAsked(v, many)) {
                version(v);
                int a = v;
                ask("differ(" + v + ", " + (many - 1) + ")", () -> x.differ(a, many - 1));
            }
        }
    }

    private void version(int v) {
        for (int what = 0; what < 4; what++) {
            int w = what;
            ask("version(" + v + ", " + w + ")", () -> x.version(v, w));
        }
    }

    private void nodes() {
        int many = x.count(1);
        for (int n = 0; n < many; n++) {
            if (isAsked(n, many)) {
                node(n);
            }
        }
    }

    private void node(int n) {
        for (int what = 0; what < 9; what++) {
            int w = what;
            ask("shape(" + n + ", " + w + ")", () -> x.shape(n, w));
        }
        int[] ends = new int[2 * x.shape(n, 0)];
        int cells = 1;
        for (int i = 0; i < ends.length; i++) {
            ends[i] = x.shape(n, 2 + i);
            cells *= i % 2 == 0 ? 1 : ends[i] - ends[i - 1] + 1;
        }
        int[] at = Given.firstPlace(ends);
        for (int i = 0; i < Math.min(cells, MOST_CELLS); i++) {
            ask("cell(" + n + ", " + at[0] + ", " + at[1] + ", " + at[2] + ")", () -> x.cell(n, at[0], at[1], at[2]));
            Given.nextPlace(at, ends);
        }
    }

    private void desk() {
        long made = ask("commit()", x::commit);
        if (made == NONE) {
            return;
        }
        version((int) made);
        long read = ask("read(" + made + ")", () -> x.read((int) made));
        if (read != NONE) {
            node((int) read);
        }
    }

    private void begins() {
        for (int i = 0; i < 3; i++) {
            ask("begin", () -> {
                x.begin(1, 0, 0, 0, 0, 0, 0);
                return 0;
            });
        }
    }
}

import java.util.function.Consumer;
import java.util.function.Supplier;

/** Compares answers with those that are due; every test ends with end(). */
final class Check {
    static final Class<IllegalArgumentException> ARGUMENT = IllegalArgumentException.class;
    static final Class<IllegalStateException> STATE = IllegalStateException.class;
    static final Class<IndexOutOfBoundsException> INDEX = IndexOutOfBoundsException.class;
    static final Class<UnsupportedOperationException> UNSUPPORTED = UnsupportedOperationException.class;

    private static int wrong = 0;
    private static int looked = 0;
    private static int sentences = 0;
    private static String sentence = "";

    private Check() {
    }

    interface Call {
        void run();
    }

    /** Each by itself: what one of them throws does not keep the next one from being looked at. */
    static void tests(Call... tests) {
        for (Call test : tests) {
            try {
                test.run();
            } catch (RuntimeException e) {
                wrong("a call throws " + e + " at " + e.getStackTrace()[0]);
            }
        }
    }

    /** What all that is looked at from here on is about: a sentence of the document. */
    static void sentence(String text) {
        sentence = "[" + text + "] ";
        sentences++;
    }

    static void due(String call, long got, long want) {
        looked++;
        if (got != want) {
            wrong(call + " answered " + got + ", due is " + want);
        }
    }

    static void due(String call, boolean got) {
        due(call, got ? 1 : 0, 1);
    }

    static void throwing(String call, Class<? extends RuntimeException> want, Call made) {
        looked++;
        try {
            made.run();
        } catch (RuntimeException e) {
            if (e.getClass() != want) {
                wrong(call + " throws " + e + ", due is " + want.getSimpleName());
            }
            return;
        }
        wrong(call + " throws nothing, due is " + want.getSimpleName());
    }

    /** The call throws and changes nothing: the object answers as its twin does, of which it is not asked. */
    static void refused(String call, Class<? extends RuntimeException> want, Supplier<GridVault> given,
            Consumer<GridVault> made) {
        GridVault asked = given.get();
        throwing(call, want, () -> made.accept(asked));
        same(call + " is refused", asked, given.get());
    }

    /** Two objects answer alike, whatever they are asked; both are used up by it. */
    static void same(String name, GridVault got, GridVault want) {
        looked++;
        String[] is = Answers.of(got);
        String[] due = Answers.of(want);
        for (int i = 0; i < Math.min(is.length, due.length); i++) {
            if (!is[i].equals(due[i])) {
                wrong(name + ", then " + is[i] + ", due is " + due[i]);
                return;
            }
        }
        if (is.length != due.length) {
            wrong(name + ", then there are other answers than due");
        }
    }

    /** The whole of a node: its ends, its cells in order (null: an empty one), and that there is none beyond. */
    static void node(String name, GridVault x, int node, int[] ends, Long... want) {
        due(name + ": dimensions", x.shape(node, 0), ends.length / 2);
        for (int i = 0; i < 6; i++) {
            due(name + ": shape " + (i + 2), x.shape(node, i + 2), i < ends.length ? ends[i] : 0);
        }
        int filled = 0;
        int[] at = Given.firstPlace(ends);
        for (int i = 0; i < want.length; i++) {
            String cell = name + ": cell " + at[0] + " " + at[1] + " " + at[2];
            Long due = want[i];
            if (due == null) {
                throwing(cell, UNSUPPORTED, () -> x.cell(node, at[0], at[1], at[2]));
            } else {
                due(cell, answer(cell, () -> x.cell(node, at[0], at[1], at[2])), due);
                filled++;
            }
            Given.nextPlace(at, ends);
        }
        due(name + ": cells that are not empty", x.shape(node, 8), filled);
        noneBeyond(name, x, node, ends);
    }

    private static void noneBeyond(String name, GridVault x, int node, int[] ends) {
        for (int i = 0; i < 2 * ends.length; i++) {
            int end = i / 2;
            int[] at = i % 2 == 0 ? Given.firstPlace(ends) : Given.lastPlace(ends);
            at[end / 2] = end % 2 == 0 ? ends[end] - 1 : ends[end] + 1;
            throwing(name + ": beyond end " + end, INDEX, () -> x.cell(node, at[0], at[1], at[2]));
        }
    }

    /** The answer of a call that must not throw; if it does, that is told. */
    private static long answer(String call, Supplier<Long> made) {
        try {
            return made.get();
        } catch (RuntimeException e) {
            wrong(call + " throws " + e);
            return 0;
        }
    }

    static void wrong(String text) {
        wrong++;
        System.out.println(sentence + text);
    }

    static void end() {
        String about = sentences == 0 ? "" : " for " + sentences + " sentences";
        System.out.println(looked + " looked at" + about + ", " + wrong + " wrong");
        if (wrong != 0) {
            System.exit(1);
        }
    }
}

/** Compares answers with those that are due; every test ends with end(). */
final class Check {
    static final Class<IllegalArgumentException> ARGUMENT = IllegalArgumentException.class;
    static final Class<IllegalStateException> STATE = IllegalStateException.class;
    static final Class<IndexOutOfBoundsException> INDEX = IndexOutOfBoundsException.class;
    static final Class<UnsupportedOperationException> UNSUPPORTED = UnsupportedOperationException.class;

    private static int wrong = 0;
    private static int looked = 0;

    private Check() {
    }

    interface Call {
        void run();
    }

    static void due(String call, long got, long want) {
        looked++;
        if (got != want) {
            wrong(call + " answered " + got + ", due is " + want);
        }
    }

    static void due(String call, boolean got) {
        due(call, got ? 1 : 0, 1);
    }

    static void throwing(String call, Class<? extends RuntimeException> want, Call made) {
        looked++;
        try {
            made.run();
        } catch (RuntimeException e) {
            if (e.getClass() != want) {
                wrong(call + " throws " + e + ", due is " + want.getSimpleName());
            }
            return;
        }
        wrong(call + " throws nothing, due is " + want.getSimpleName());
    }

    static void wrong(String text) {
        wrong++;
        System.out.println(text);
    }

    static void end() {
        System.out.println(looked + " looked at, " + wrong + " wrong");
        if (wrong != 0) {
            System.exit(1);
        }
    }
}

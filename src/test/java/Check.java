/** Runs tests by their names, counts answers that are not the ones that are due, and prints each of them. */
final class Check {
    static final String PLACE = "throws.IndexOutOfBoundsException";
    static final String ARGUMENT = "throws.IllegalArgumentException";
    static final String STATE = "throws.IllegalStateException";

    static final long LEAST = Long.MIN_VALUE;
    static final long MOST = Long.MAX_VALUE;
    static final int ROOM = 1024;

    // Numbers just beside those that there are, and the farthest ones.
    private static final int[] NO_ROWS = {-1, 4, Integer.MIN_VALUE, Integer.MAX_VALUE};
    private static final int[] NO_ORDERS = {-1, 8, Integer.MIN_VALUE, Integer.MAX_VALUE};
    // A longer row is read by its mark, so that a reading stays far below 512 calls.
    private static final int MOST_READ = 20;

    interface Call {
        Object answer();
    }

    interface Deed {
        void run();
    }

    interface Use {
        void on(Bench bench);
    }

    interface UseOfNumber {
        void on(Bench bench, int number);
    }

    private final String name;
    private String test = "";
    private int tests = 0;
    private int looked = 0;
    private int wrong = 0;

    Check(String name) {
        this.name = name;
    }

    /** A test by itself: what it throws does not keep the others from being run. */
    void test(String testName, Deed body) {
        test = testName;
        tests++;
        int lookedBefore = looked;
        try {
            body.run();
        } catch (RuntimeException thrown) {
            tell("ended with " + thrown);
        }
        if (looked == lookedBefore) {
            tell("looked at nothing");
        }
    }

    private void tell(String fault) {
        wrong++;
        System.out.println(name + ": " + test + ": " + fault);
    }

    void due(String what, Object got, Object want) {
        looked++;
        if (!want.equals(got)) {
            tell(what + " answered " + got + ", due is " + want);
        }
    }

    /** A test that one call, on a bench with rows of all sorts, throws this and changes nothing. */
    void refused(String testName, String exception, Use call) {
        test(testName, () -> {
            Bench bench = laidBench();
            String before = readAll(bench);
            due("the call", answerOf(() -> call.on(bench)), exception);
            due("what stands behind it", readAll(bench), before);
        });
    }

    /** For each number that is no row, a test of its own. */
    void refusesRows(String call, UseOfNumber use) {
        for (int row : NO_ROWS) {
            refused(call + ", there is no row " + row, PLACE, bench -> use.on(bench, row));
        }
    }

    void refusesOrders(String call, UseOfNumber use) {
        for (int order : NO_ORDERS) {
            refused(call + ", there is no order " + order, ARGUMENT, bench -> use.on(bench, order));
        }
    }

    /** Row 0 is in order 0, row 1 in no order, row 2 is empty, and row 3 full and in no order. */
    static Bench laidBench() {
        Bench bench = new Bench();
        bench.add(0, 1, 5);
        bench.add(0, 3, -2);
        bench.add(0, 3, 9);
        bench.add(0, 7, 0);
        bench.add(1, 4, 8);
        bench.add(1, -2, 8);
        bench.add(1, 9, 1);
        bench.add(1, 0, 3);
        bench.fill(3, ROOM, 3, 0x1234567890ABCDEFL, 7);
        bench.sort(0, 4, 0);
        return bench;
    }

    /** What a call answers, or the name of what it throws behind "throws.". */
    static Object answerOf(Call call) {
        try {
            return call.answer();
        } catch (RuntimeException thrown) {
            return "throws." + thrown.getClass().getSimpleName();
        }
    }

    static Object answerOf(Deed deed) {
        return answerOf(() -> {
            deed.run();
            return "done";
        });
    }

    static String readAll(Bench bench) {
        StringBuilder text = new StringBuilder();
        for (int row = 0; row < 4; row++) {
            text.append(bench.size(row) <= MOST_READ ? read(bench, row) : "mark " + bench.mark(row)).append(" / ");
        }
        return text.append(bench.within()).toString();
    }

    /** The entries of a row, as key:tag. */
    static String read(Bench bench, int row) {
        StringBuilder text = new StringBuilder();
        int n = bench.size(row);
        for (int i = 0; i < n; i++) {
            text.append(i == 0 ? "" : " ").append(bench.key(row, i)).append(':').append(bench.tag(row, i));
        }
        return text.toString();
    }

    /** The keys of a row, and "tags" if its tags are not 0, 1, .. */
    static String readKeys(Bench bench, int row) {
        StringBuilder text = new StringBuilder();
        boolean numbered = true;
        int n = bench.size(row);
        for (int i = 0; i < n; i++) {
            text.append(i == 0 ? "" : " ").append(bench.key(row, i));
            numbered &= bench.tag(row, i) == i;
        }
        return text + (numbered ? "" : " tags");
    }

    static String text(long... keys) {
        StringBuilder text = new StringBuilder();
        for (int i = 0; i < keys.length; i++) {
            text.append(i == 0 ? "" : " ").append(keys[i]);
        }
        return text.toString();
    }

    /** A new object whose row 0 has these keys, with tags 0, 1, .. */
    static Bench benchOf(long... keys) {
        Bench bench = new Bench();
        put(bench, 0, keys);
        return bench;
    }

    /** Each second number is an entry's key, the one behind it its tag. */
    static Bench benchOfEntries(long... keysAndTags) {
        Bench bench = new Bench();
        for (int i = 0; i + 1 < keysAndTags.length; i += 2) {
            bench.add(0, keysAndTags[i], (int) keysAndTags[i + 1]);
        }
        return bench;
    }

    static void put(Bench bench, int row, long... keys) {
        bench.cut(row, 0);
        for (int i = 0; i < keys.length; i++) {
            bench.add(row, keys[i], i);
        }
    }

    void end() {
        System.out.println(name + ": " + tests + " tests, " + looked + " answers looked at, " + wrong + " not as due");
        if (wrong != 0 || tests == 0) {
            System.exit(1);
        }
    }
}

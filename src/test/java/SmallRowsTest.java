/** Promises 11 to 21 on all rows of at most four entries with keys of all sorts, against the plain model. */
public final class SmallRowsTest {
    private static final Check CHECK = new Check("SmallRowsTest");
    // By each order some of them come first and some last; by orders 4 and 5 some are ALIKE that are not the same.
    private static final long[] KEYS = {Check.LEAST, -256, -1, 0, 1, 2, Check.MOST};
    // Not by place, and one of them twice, so that entries are told apart by tags, but not all of them.
    private static final int[] TAGS = {2, -1, 2, 0};
    private static final int MOST_ENTRIES = TAGS.length;
    private static final int ORDERS = 8;
    private static final int WAYS = 7;
    private static final int LAID = 3;

    private final long[] keys;
    private final int order;
    private final Bench bench = new Bench();
    private final Model model = new Model();

    private SmallRowsTest(long[] keys, int order) {
        this.keys = keys;
        this.order = order;
    }

    public static void main(String[] args) {
        for (int n = 0; n <= MOST_ENTRIES; n++) {
            for (int order = 0; order < ORDERS; order++) {
                int many = n;
                int by = order;
                CHECK.test("11 to 21, all rows of " + n + ", order " + order, () -> allRows(many, by));
            }
        }
        CHECK.end();
    }

    private static void allRows(int n, int order) {
        int rows = 1;
        for (int i = 0; i < n; i++) {
            rows *= KEYS.length;
        }
        for (int number = 0; number < rows; number++) {
            long[] keys = new long[n];
            int rest = number;
            for (int i = 0; i < n; i++) {
                keys[i] = KEYS[rest % KEYS.length];
                rest /= KEYS.length;
            }
            new SmallRowsTest(keys, order).run();
        }
    }

    private void run() {
        for (int i = 0; i < keys.length; i++) {
            bench.add(LAID, keys[i], TAGS[i]);
            model.add(LAID, keys[i], TAGS[i]);
        }
        tells();
        sorts();
        fronts();
        findsAndMakesSingle(LAID);
        findsAndMakesSingle(0);
        merges();
    }

    private void same(String call, Check.Call got, Check.Call want) {
        Object due = Check.answerOf(want);
        CHECK.due(Check.text(keys) + ": " + call, Check.answerOf(got), due);
    }

    private void sameRow(String call, int row) {
        same(call + ", mark(" + row + ")", () -> bench.mark(row), () -> model.mark(row));
    }

    private void layIn(int row) {
        bench.copy(LAID, row);
        model.copy(LAID, row);
    }

    private void tells() {
        same("sorted", () -> bench.sorted(LAID, order), () -> model.sorted(LAID, order));
        same("runs", () -> bench.runs(LAID, order), () -> model.runs(LAID, order));
        same("inversions", () -> bench.inversions(LAID, order), () -> model.inversions(LAID, order));
        same("climb", () -> bench.climb(LAID, order), () -> model.climb(LAID, order));
        for (int place = -1; place <= keys.length; place++) {
            int k = place;
            same("ranked, place " + k, () -> bench.ranked(LAID, order, k), () -> model.ranked(LAID, order, k));
        }
        sameRow("what was told of", LAID);
    }

    private void sorts() {
        for (int way = 0; way < WAYS; way++) {
            int by = way;
            layIn(0);
            CHECK.due(Check.text(keys) + ": sort in way " + way,
                    Check.answerOf(() -> bench.sort(0, by, order)), Check.answerOf(() -> model.sort(0, by, order)));
            sameRow("sort in way " + way, 0);
            CHECK.due("within() behind way " + way, bench.within(), true);
        }
    }

    private void fronts() {
        for (int k = 0; k <= keys.length; k++) {
            layIn(0);
            bench.front(0, order, k);
            model.front(0, order, k);
            sameRow("front of " + k, 0);
        }
    }

    /** Row 0 is in order here, since all of it was brought to the front; the laid row is so or not. */
    private void findsAndMakesSingle(int row) {
        for (long key : KEYS) {
            for (boolean alike : new boolean[] {false, true}) {
                same("find " + key + " " + alike + " in row " + row,
                        () -> bench.find(row, order, key, alike), () -> model.find(row, order, key, alike));
            }
        }
        bench.copy(row, 1);
        model.copy(row, 1);
        same("single of row " + row, () -> bench.single(1, order), () -> model.single(1, order));
        sameRow("single of row " + row, 1);
    }

    /** The laid row's first entries and the others, each in order, become one. */
    private void merges() {
        for (int border = 0; border <= keys.length; border++) {
            int first = border;
            for (int to = 0; to < 3; to++) {
                int target = to;
                bench.cut(0, 0);
                model.cut(0, 0);
                bench.cut(1, 0);
                model.cut(1, 0);
                for (int i = 0; i < keys.length; i++) {
                    bench.add(i < first ? 0 : 1, keys[i], TAGS[i]);
                    model.add(i < first ? 0 : 1, keys[i], TAGS[i]);
                }
                for (int row = 0; row < 2; row++) {
                    bench.sort(row, 4, order);
                    model.sort(row, 4, order);
                }
                same("merge of " + first + " and the others", () -> bench.merge(0, 1, target, order),
                        () -> model.merge(0, 1, target, order));
                for (int row = 0; row < 3; row++) {
                    sameRow("merge of " + first + " and the others to row " + target, row);
                }
            }
        }
        same("merge with the laid row", () -> bench.merge(LAID, 0, 2, order), () -> model.merge(LAID, 0, 2, order));
        sameRow("merge with the laid row", 2);
    }
}

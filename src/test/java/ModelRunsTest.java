/** All promises: long runs of mixed calls, right and wrong ones, against the plain model. */
public final class ModelRunsTest {
    private static final Check CHECK = new Check("ModelRunsTest");
    private static final int RUNS = 600;
    private static final int CALLS = 100;
    private static final int METHODS = 23;
    private static final long[] EDGES = {
        0, 1, -1, 2, -2, 3, 255, 256, 257, Long.MIN_VALUE, Long.MAX_VALUE, Long.MIN_VALUE + 1, 1L << 32, -(1L << 32)
    };

    private long seed;
    private Bench bench;
    private Model model;

    public static void main(String[] args) {
        for (int run = 0; run < RUNS; run++) {
            int seed = run;
            CHECK.test("1 to 22, run " + run, () -> new ModelRunsTest().run(seed));
        }
        CHECK.end();
    }

    private int below(int bound) {
        seed = seed * 6364136223846793005L + 1442695040888963407L;
        return (int) ((seed >>> 33) % bound);
    }

    private void run(int run) {
        seed = run * 977L + 5;
        bench = new Bench();
        model = new Model();
        int most = run % 20 == 0 ? 1024 : run % 5 == 0 ? 90 : 12;
        // Each step makes at most five calls, so that an object is never used for more than 512.
        for (int call = 0; call < CALLS; call++) {
            int row = row();
            step("step " + call, row, most);
        }
        for (int row = 0; row < 4; row++) {
            CHECK.due("last mark(" + row + ")", bench.mark(row), model.mark(row));
        }
    }

    private int row() {
        return below(40) == 0 ? below(2) * 5 - 1 : below(4);
    }

    private int order() {
        return below(40) == 0 ? below(2) * 9 - 1 : below(8);
    }

    private int place(int row) {
        int n = row < 0 || row > 3 ? 3 : model.size(row);
        return below(20) == 0 ? below(2) * (n + 1) - 1 : n == 0 ? 0 : below(n);
    }

    private long key() {
        switch (below(3)) {
            case 0:
                return EDGES[below(EDGES.length)];
            case 1:
                return below(20) - 10;
            default:
                return ((long) below(Integer.MAX_VALUE) << 33) ^ below(Integer.MAX_VALUE);
        }
    }

    private void same(String what, Check.Call got, Check.Call want) {
        CHECK.due(what, Check.answerOf(got), Check.answerOf(want));
    }

    private void sameDeed(String what, Check.Deed got, Check.Deed want) {
        CHECK.due(what, Check.answerOf(got), Check.answerOf(want));
    }

    private void step(String at, int row, int most) {
        int order = order();
        int i = place(row);
        int j = place(row);
        long key = key();
        int other = row();
        int method = below(METHODS);
        switch (method) {
            case 0: {
                int tag = below(9) - 4;
                same(at + " add", () -> bench.add(row, key, tag), () -> model.add(row, key, tag));
                break;
            }
            case 1:
            case 22: {
                int n = below(30) == 0 ? below(2) * 1026 - 1 : below(most + 1);
                int kind = below(30) == 0 ? below(2) * 7 - 1 : below(6);
                int step = below(8) == 0 ? (int) key : below(12) - 3;
                sameDeed(at + " fill", () -> bench.fill(row, n, kind, key, step), () -> model.fill(row, n, kind, key, step));
                break;
            }
            case 2:
                sameDeed(at + " cut", () -> bench.cut(row, i), () -> model.cut(row, i));
                break;
            case 3:
                sameDeed(at + " swap", () -> bench.swap(row, i, j), () -> model.swap(row, i, j));
                break;
            case 4:
                sameDeed(at + " number", () -> bench.number(row), () -> model.number(row));
                break;
            case 5:
                sameDeed(at + " copy", () -> bench.copy(row, other), () -> model.copy(row, other));
                break;
            case 6:
                same(at + " size", () -> bench.size(row), () -> model.size(row));
                break;
            case 7:
                same(at + " key", () -> bench.key(row, i), () -> model.key(row, i));
                break;
            case 8:
                same(at + " tag", () -> bench.tag(row, i), () -> model.tag(row, i));
                break;
            case 9:
            case 10:
            case 11: {
                int way = below(40) == 0 ? below(2) * 8 - 1 : below(7);
                sameDeed(at + " sort", () -> bench.sort(row, way, order), () -> model.sort(row, way, order));
                CHECK.due(at + " within", bench.within(), true);
                break;
            }
            default:
                tell(at, method, row, other, order, i, key);
        }
        same(at + " mark", () -> bench.mark(row), () -> model.mark(row));
    }

    private void tell(String at, int method, int row, int other, int order, int i, long key) {
        boolean alike = below(2) == 0;
        int to = row();
        int way = below(6);
        boolean first = below(3) != 0 && method >= 17 && method <= 20;
        if (first) {
            sameDeed(at + " sort", () -> bench.sort(row, way, order), () -> model.sort(row, way, order));
            sameDeed(at + " sort", () -> bench.sort(other, way, order), () -> model.sort(other, way, order));
        }
        switch (method) {
            case 12:
                same(at + " sorted", () -> bench.sorted(row, order), () -> model.sorted(row, order));
                break;
            case 13:
                same(at + " runs", () -> bench.runs(row, order), () -> model.runs(row, order));
                break;
            case 14:
                same(at + " inversions", () -> bench.inversions(row, order), () -> model.inversions(row, order));
                break;
            case 15:
                same(at + " ranked", () -> bench.ranked(row, order, i), () -> model.ranked(row, order, i));
                break;
            case 16:
                same(at + " climb", () -> bench.climb(row, order), () -> model.climb(row, order));
                break;
            case 17:
            case 18:
                same(at + " find", () -> bench.find(row, order, key, alike), () -> model.find(row, order, key, alike));
                break;
            case 19:
                same(at + " merge", () -> bench.merge(row, other, to, order), () -> model.merge(row, other, to, order));
                same(at + " mark", () -> bench.mark(to), () -> model.mark(to));
                break;
            case 20:
                same(at + " single", () -> bench.single(row, order), () -> model.single(row, order));
                break;
            default:
                sameDeed(at + " front", () -> bench.front(row, order, i), () -> model.front(row, order, i));
        }
    }
}

import java.util.Arrays;

/** Promises 11 and 12 with ordinary and with hard inputs: rows come into order in every way and by every order. */
public final class SortTest {
    private static final Check CHECK = new Check("SortTest");
    private static final int[] SIZES = {4, 5, 15, 16, 17, 18, 31, 32, 33, 63, 64, 65, 100, 511, 1023, 1024};
    // What can be laid by add(), with enough of an object's 512 calls left.
    private static final int MOST_LAID = 480;

    interface Layer {
        void lay(Bench bench, Model model);
    }

    public static void main(String[] args) {
        everyOrder();
        allKinds();
        deepPartings();
        manyAlike();
        unevenRuns();
        leaps();
        CHECK.end();
    }

    private static boolean fits(int way, int order) {
        return way != 6 || order <= 2 || order == 5;
    }

    private static void orderDue(int order, String want, long... keys) {
        for (int way = 0; way < 7; way++) {
            int by = way;
            if (fits(way, order)) {
                CHECK.test("11 sort, way " + way + ", order " + order, () -> {
                    Bench bench = Check.benchOf(keys);
                    bench.sort(0, by, order);
                    CHECK.due("row", Check.read(bench, 0), want);
                });
            }
        }
    }

    private static void everyOrder() {
        orderDue(0, "-3:4 0:3 2:0 9:2 41:1", 2, 41, 9, 0, -3);
        orderDue(1, "41:1 9:2 2:0 0:3 -3:4", 2, 41, 9, 0, -3);
        orderDue(2, "0:3 2:0 9:2 41:1 -3:4", 2, 41, 9, 0, -3);
        orderDue(3, "2:0 9:2 12:3 7:4 41:1", 2, 41, 9, 12, 7);
        orderDue(4, "2:0 8:3 41:1 9:2 -3:4", 2, 41, 9, 8, -3);
        orderDue(5, "512:3 258:0 9:2 41:1 -3:4", 258, 41, 9, 512, -3);
        orderDue(6, "2:0 -3:4 3:3 9:2 -41:1", 2, -41, 9, 3, -3);
        orderDue(7, "8:3 2:0 9:2 41:1 -3:4", 2, 41, 9, 8, -3);
    }

    /** Brings what was laid into order in every way and by every order, and looks at it and at within(). */
    private static void sortAll(String what, Layer layer) {
        CHECK.test("11 sort, 12 within: " + what, () -> {
            for (int way = 0; way < 7; way++) {
                for (int order = 0; order < 8; order++) {
                    if (fits(way, order)) {
                        sortOne(way, order, layer);
                    }
                }
            }
        });
    }

    private static void sortOne(int way, int order, Layer layer) {
        Bench bench = new Bench();
        Model model = new Model();
        layer.lay(bench, model);
        bench.sort(0, way, order);
        model.sort(0, way, order);
        String call = "way " + way + ", order " + order + ": ";
        CHECK.due(call + "mark", bench.mark(0), model.mark(0));
        CHECK.due(call + "within()", bench.within(), true);
        CHECK.due(call + "sorted", bench.sorted(0, order), true);
    }

    private static void sortKeys(String what, long[] keys, int tagsModulo) {
        sortAll(what, (bench, model) -> {
            for (int i = 0; i < keys.length; i++) {
                int tag = i * 7 % tagsModulo;
                bench.add(0, keys[i], tag);
                model.add(0, keys[i], tag);
            }
        });
    }

    private static void allKinds() {
        for (int n : SIZES) {
            for (int kind = 0; kind < 6; kind++) {
                int of = kind;
                sortAll(n + " entries of kind " + kind, (bench, model) -> {
                    bench.fill(0, n, of, 0x1234567890ABCDEFL, 13);
                    model.fill(0, n, of, 0x1234567890ABCDEFL, 13);
                });
            }
        }
    }

    /** Keys against which the middle one of first, middle and last is always among the greatest or least. */
    private static void deepPartings() {
        int n = MOST_LAID;
        long[] organ = new long[n];
        long[] killer = new long[n];
        for (int i = 0; i < n; i++) {
            organ[i] = Math.min(i, n - 1 - i);
            killer[i] = i % 2 == 0 ? i / 2 + 1 : n / 2 + i / 2 + 1;
        }
        sortKeys("up and down", organ, n);
        sortKeys("every second", killer, n);
        long[] worst = new long[n];
        int[] places = new int[n];
        Arrays.setAll(places, i -> i);
        // Sets, step by step, the two least keys left where a parting by three looks for its middle one.
        long next = 0;
        for (int from = 0; from + 2 < n; from += 2) {
            int middle = from + (n - from) / 2;
            worst[places[from]] = next++;
            worst[places[middle]] = next++;
            int held = places[middle];
            places[middle] = places[from + 1];
            places[from + 1] = held;
        }
        sortKeys("the least in the middle", worst, n);
    }

    private static void manyAlike() {
        long[] same = new long[MOST_LAID];
        long[] two = new long[MOST_LAID];
        for (int i = 0; i < MOST_LAID; i++) {
            same[i] = 5;
            two[i] = i * 37 % 2 * 512;
        }
        sortKeys("all the same", same, 1);
        sortKeys("all the same keys", same, MOST_LAID);
        sortKeys("two keys", two, 3);
    }

    /** Rises and falls of lengths by chance, so that runs on a pile are longer or shorter than their neighbours. */
    private static void unevenRuns() {
        long seed = 1;
        for (int round = 0; round < 60; round++) {
            long[] keys = new long[260 + round * 3];
            int at = 0;
            while (at < keys.length) {
                seed = seed * 6364136223846793005L + 1442695040888963407L;
                int chance = (int) (seed >>> 40);
                int end = Math.min(keys.length, at + 1 + chance % (round % 2 == 0 ? 70 : 140));
                int step = (chance >>> 8) % 7 - 3;
                long key = (chance >>> 12) % 300;
                for (; at < end; at++) {
                    keys[at] = key;
                    key += step;
                }
            }
            sortKeys("runs of uneven lengths, round " + round, keys, 11);
        }
    }

    private static void leaps() {
        int n = MOST_LAID;
        long[] two = new long[n];
        long[] blocks = new long[n];
        long[] far = new long[n];
        for (int i = 0; i < n; i++) {
            two[i] = i < n / 2 ? i : i - n / 4 - i % 2 * 300;
            blocks[i] = i < n / 2 ? i / 24 * 100 : (i - n / 2) / 24 * 100 + 50;
            far[i] = i < n / 2 ? 10 * i : i < n - 60 ? i : 5 * i;
        }
        sortKeys("two runs that leap", two, n);
        sortKeys("blocks by turns", blocks, n);
        sortKeys("a run far behind another one", far, n);
    }
}

import java.util.Arrays;

/** Promises 11 and 12: rows are brought into order, in every way and by every order. */
public final class SortTest {
    private static final Check CHECK = new Check("SortTest");
    private static final long LEAST = Long.MIN_VALUE;
    private static final long MOST = Long.MAX_VALUE;
    private static final int[] SIZES = {0, 1, 2, 3, 4, 5, 15, 16, 17, 18, 31, 32, 33, 63, 64, 65, 100, 511, 1023, 1024};

    public static void main(String[] args) {
        ordersAreAsTold();
        alikeOnesStand();
        sameTagsStandByKeys();
        refuses();
        withinStaysAtAThrow();
        allKindsInAllWays();
        deepPartings();
        manyAlike();
        unevenRuns();
        otherRowsStay();
        CHECK.end();
    }

    private static boolean fits(int way, int order) {
        return way != 6 || order <= 2 || order == 5;
    }

    private static String keysSorted(int way, int order, long... keys) {
        OrderBench bench = Check.benchOf(keys);
        bench.sort(0, way, order);
        StringBuilder text = new StringBuilder();
        for (int i = 0; i < keys.length; i++) {
            text.append(i == 0 ? "" : " ").append(bench.key(0, i));
        }
        return text.toString();
    }

    private static void orderDue(int order, String want, long... keys) {
        for (int way = 0; way < 7; way++) {
            if (fits(way, order)) {
                CHECK.due("way " + way + ", order " + order, keysSorted(way, order, keys), want);
            }
        }
    }

    private static void ordersAreAsTold() {
        orderDue(0, LEAST + " -3 0 2 " + MOST, 2, LEAST, MOST, 0, -3);
        orderDue(1, MOST + " 2 0 -3 " + LEAST, 2, LEAST, MOST, 0, -3);
        orderDue(2, "0 2 " + MOST + " " + LEAST + " -3 -1", -1, 2, LEAST, MOST, 0, -3);
        orderDue(3, "0 " + LEAST + " 1 2 8 3 7 " + MOST + " -1", -1, 7, 8, 3, 2, MOST, 1, LEAST, 0);
        orderDue(4, "2 " + LEAST + " 4 7 -3 " + MOST, 2, 7, -3, LEAST, 4, MOST);
        orderDue(5, "256 1 -128 -1", -1, -128, 1, 256);
        orderDue(6, "0 -1 1 -2 2 -" + MOST + " " + MOST + " " + LEAST, LEAST, 2, MOST, 1, -MOST, -1, 0, -2);
        orderDue(7, "0 " + LEAST + " 4 2 6 1 5 3 7 " + MOST + " -1", 1, 2, 3, 4, 5, 6, 7, 0, LEAST, -1, MOST);
    }

    private static void alikeOnesStand() {
        for (int way = 0; way < 7; way++) {
            OrderBench bench = new OrderBench();
            bench.add(0, 0x105, 3);
            bench.add(0, 0x001, 9);
            bench.add(0, 0x205, 2);
            bench.add(0, 0x305, -1);
            bench.sort(0, way, 5);
            boolean steady = way == 0 || way >= 4;
            CHECK.due("ALIKE ones, way " + way, Check.read(bench, 0),
                    steady ? "1:9 261:3 517:2 773:-1" : "1:9 773:-1 517:2 261:3");
        }
    }

    private static void sameTagsStandByKeys() {
        for (int way = 0; way < 6; way++) {
            OrderBench bench = new OrderBench();
            bench.add(0, 7, 1);
            bench.add(0, 5, 1);
            bench.add(0, 4, 1);
            bench.add(0, -2, 1);
            bench.add(0, 9, 0);
            bench.sort(0, way, 4);
            boolean steady = way == 0 || way >= 4;
            CHECK.due("the same tags, way " + way, Check.read(bench, 0),
                    steady ? "4:1 -2:1 7:1 5:1 9:0" : "-2:1 4:1 9:0 5:1 7:1");
        }
    }

    private static void refuses() {
        OrderBench bench = Check.benchOf(3, 1, 2);
        CHECK.argument("sort in way 7", bench, () -> bench.sort(0, 7, 0));
        CHECK.argument("sort in way -1", bench, () -> bench.sort(0, -1, 0));
        CHECK.argument("sort by order 8", bench, () -> bench.sort(0, 0, 8));
        CHECK.argument("sort by order -1", bench, () -> bench.sort(0, 0, -1));
        CHECK.argument("sort by order -1 in way 6", bench, () -> bench.sort(0, 6, -1));
        for (int order : new int[] {3, 4, 6, 7}) {
            CHECK.argument("sort in way 6 by order " + order, bench, () -> bench.sort(0, 6, order));
            CHECK.argument("so of an empty row", bench, () -> bench.sort(1, 6, order));
        }
        CHECK.place("sort of row 4", bench, () -> bench.sort(4, 0, 0));
        CHECK.place("sort of row -1, all wrong", bench, () -> bench.sort(-1, 9, 9));
    }

    private static void withinStaysAtAThrow() {
        OrderBench bench = Check.benchOf(3, 1, 2);
        bench.sort(0, 0, 0);
        CHECK.argument("sort in way 9", bench, () -> bench.sort(0, 9, 0));
        CHECK.due("within() behind a throw", bench.within(), true);
    }

    /** Sorts row 0 as it is in every way and by every order, and looks at each entry and at within(). */
    private static void sortAll(String what, OrderBench bench, Model model) {
        model.copy(0, 3);
        for (int way = 0; way < 7; way++) {
            for (int order = 0; order < 8; order++) {
                if (!fits(way, order)) {
                    continue;
                }
                OrderBench fresh = new OrderBench();
                model.copy(3, 0);
                fillFrom(fresh, bench);
                fresh.sort(0, way, order);
                model.sort(0, way, order);
                String call = what + ", way " + way + ", order " + order;
                CHECK.due(call + ": mark", fresh.mark(0), model.mark(0));
                CHECK.due(call + ": within()", fresh.within(), true);
                CHECK.due(call + ": sorted", fresh.sorted(0, order), true);
            }
        }
    }

    private static void fillFrom(OrderBench fresh, OrderBench bench) {
        for (int i = 0; i < bench.size(0); i++) {
            fresh.add(0, bench.key(0, i), bench.tag(0, i));
        }
    }

    // Lays by single calls what fill() cannot make; the sorts would be the same within 512 calls.
    private static void sortKeys(String what, long[] keys, int tagsModulo) {
        OrderBench bench = new OrderBench();
        Model model = new Model();
        for (int i = 0; i < keys.length; i++) {
            int tag = i * 7 % tagsModulo;
            bench.add(0, keys[i], tag);
            model.add(0, keys[i], tag);
        }
        sortAll(what, bench, model);
    }

    private static void allKindsInAllWays() {
        for (int n : SIZES) {
            for (int kind = 0; kind < 6; kind++) {
                OrderBench bench = new OrderBench();
                Model model = new Model();
                bench.fill(0, n, kind, 0x1234567890ABCDEFL, 13);
                model.fill(0, n, kind, 0x1234567890ABCDEFL, 13);
                sortAll("kind " + kind + " of " + n, bench, model);
            }
        }
    }

    /** Keys against which the middle one of first, middle and last is always among the greatest or least. */
    private static void deepPartings() {
        int n = 1024;
        long[] organ = new long[n];
        long[] killer = new long[n];
        for (int i = 0; i < n; i++) {
            organ[i] = Math.min(i, n - 1 - i);
            killer[i] = i % 2 == 0 ? i / 2 + 1 : n / 2 + i / 2 + 1;
        }
        sortKeys("up and down", organ, 1024);
        sortKeys("every second", killer, 1024);
        long[] worst = new long[n];
        int[] places = new int[n];
        Arrays.setAll(places, i -> i);
        // Sets, step by step, the two least keys left where a parting by three looks for its middle one.
        long next = 0;
        for (int from = 0; from + 2 < n; from += 2) {
            int middle = from + (n - from) / 2;
            worst[places[from]] = next++;
            worst[places[middle]] = next++;
            int held = places[middle];
            places[middle] = places[from + 1];
            places[from + 1] = held;
        }
        sortKeys("the least in the middle", worst, 1024);
    }

    private static void manyAlike() {
        long[] same = new long[1000];
        long[] two = new long[1000];
        for (int i = 0; i < 1000; i++) {
            same[i] = 5;
            two[i] = i * 37 % 2 * 512;
        }
        sortKeys("all the same", same, 1);
        sortKeys("all the same keys", same, 1000);
        sortKeys("two keys", two, 3);
    }

    private static void unevenRuns() {
        int[] lengths = {120, 80, 25, 20, 30, 200, 17, 16, 300, 5, 100, 1, 60, 50};
        long[] keys = new long[1024];
        int at = 0;
        for (int i = 0; i < lengths.length; i++) {
            for (int j = 0; j < lengths[i]; j++) {
                keys[at] = i % 3 == 0 ? 5000 - 3 * j : i * 100 + j / 2;
                at++;
            }
        }
        sortKeys("runs of uneven lengths", keys, 11);
        for (int i = 0; i < 1024; i++) {
            keys[i] = i < 512 ? i : i - 256 - i % 2 * 300;
        }
        sortKeys("two runs that leap", keys, 1024);
        for (int i = 0; i < 1024; i++) {
            keys[i] = i < 500 ? i / 50 * 100 : (i - 500) / 50 * 100 + 50;
        }
        sortKeys("blocks by turns", keys, 1024);
    }

    private static void otherRowsStay() {
        for (int way = 0; way < 7; way++) {
            OrderBench bench = Check.benchOf(3, 1, 2);
            bench.copy(0, 1);
            bench.copy(0, 3);
            bench.sort(1, way, 0);
            CHECK.due("row 0, way " + way, Check.read(bench, 0), "3:0 1:1 2:2");
            CHECK.due("row 1, way " + way, Check.read(bench, 1), "1:1 2:2 3:0");
            CHECK.due("row 2, way " + way, Check.read(bench, 2), "");
            CHECK.due("row 3, way " + way, Check.read(bench, 3), "3:0 1:1 2:2");
        }
    }
}

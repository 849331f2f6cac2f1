/** The edges that the document names for promises 11 and 12, and for its ORDERS, WAYS and STEADY ones. */
public final class EdgeSortTest {
    private static final Check CHECK = new Check("EdgeSortTest");
    private static final long LEAST = Check.LEAST;
    private static final long MOST = Check.MOST;
    private static final int ROOM = Check.ROOM;
    private static final int LEAST_INT = Integer.MIN_VALUE;
    private static final int MOST_INT = Integer.MAX_VALUE;
    private static final int WAYS = 7;
    private static final int ORDERS = 8;
    // A long of each byte's edges: none, one, the greatest without the highest bit, that bit, all.
    private static final long[] BYTES = {0x00, 0x01, 0x7F, 0x80, 0xFF};

    public static void main(String[] args) {
        chains();
        alikeOnes();
        countedBytes();
        standingByTags();
        standingByKeys();
        steadyOnes();
        sizes();
        refusals();
        withinBeforeAndBehind();
        CHECK.end();
    }

    private static void due(String what, Object got, Object want) {
        CHECK.due(what, got, want);
    }

    private static boolean fits(int way, int order) {
        return way != 6 || order <= 2 || order == 5;
    }

    private static String at(int way, int order) {
        return "way " + way + ", order " + order;
    }

    private static long[] turned(long[] keys) {
        long[] turned = new long[keys.length];
        for (int i = 0; i < keys.length; i++) {
            turned[i] = keys[keys.length - 1 - i];
        }
        return turned;
    }

    private static String sortedKeys(int way, int order, long... keys) {
        Bench bench = Check.benchOf(keys);
        bench.sort(0, way, order);
        StringBuilder text = new StringBuilder();
        for (int i = 0; i < keys.length; i++) {
            text.append(i == 0 ? "" : " ").append(bench.key(0, i));
        }
        return text.toString();
    }

    /** Each key comes before the next one; laid the other way round they come to stand so in every way. */
    private static void chainDue(String test, int order, long... keys) {
        CHECK.test("11 sort, ORDERS: " + order + " " + test, () -> {
            for (int i = 0; i + 1 < keys.length; i++) {
                due(keys[i] + " before " + keys[i + 1], Check.benchOf(keys[i], keys[i + 1]).sorted(0, order), true);
                due(keys[i + 1] + " before " + keys[i], Check.benchOf(keys[i + 1], keys[i]).sorted(0, order), false);
            }
            for (int way = 0; way < WAYS; way++) {
                if (fits(way, order)) {
                    due(at(way, order), sortedKeys(way, order, turned(keys)), Check.text(keys));
                }
            }
        });
    }

    private static void chains() {
        chainDue("the least and the greatest long", 0, LEAST, LEAST + 1, -1, 0, 1, MOST - 1, MOST);
        chainDue("the greatest and the least long", 1, MOST, MOST - 1, 1, 0, -1, LEAST + 1, LEAST);
        chainDue("without sign, 0 to -1", 2, 0, 1, MOST - 1, MOST, LEAST, LEAST + 1, -2, -1);
        chainDue("no bit 1, one, and all of them", 3, 0, LEAST, 1, 2, 4, LEAST + 1, 3, MOST, -1);
        chainDue("of as many bits the lesser", 3, LEAST, 1, 1L << 62);
        chainDue("of 63 bits the lesser", 3, 0xDFFFFFFFFFFFFFFFL, -2, MOST);
        chainDue("the least long is even", 4, LEAST, 1);
        chainDue("the greatest long is odd", 4, 0, MOST);
        chainDue("odd ones below 0", 4, -2, -1);
        chainDue("the byte's 0 to 255", 5, 0, 1, 127, 128, 255);
        chainDue("the bytes of numbers below 0", 5, -256, -255, -129, -128, -1);
        chainDue("only the lowest byte", 5, MOST - 255, LEAST + 1, 0x7F02, 0x0103);
        chainDue("by size, the least long is the greatest", 6, 0, -1, 1, -2, 2, -MOST, MOST, LEAST);
        chainDue("of the same size the one below 0 first", 6, -MOST, MOST);
        chainDue("the lowest bit decides", 7, LEAST, -2, 1, -1);
        chainDue("the highest bit decides at last", 7, 0, LEAST, MOST, -1);
        chainDue("each bit from the lowest on", 7, 0, 1L << 63, 1L << 62, 1L << 32, 1L << 31, 2, 1);
    }

    private static void alikeDue(String test, int order, long a, long b) {
        CHECK.test("11 sort, ALIKE: " + order + " " + test, () -> {
            due(a + ", " + b, Check.benchOf(a, b).sorted(0, order), true);
            due(b + ", " + a, Check.benchOf(b, a).sorted(0, order), true);
        });
    }

    private static void alikeOnes() {
        for (int order = 0; order < ORDERS; order++) {
            alikeDue("a key and itself", order, 5, 5);
            alikeDue("the least long and itself", order, LEAST, LEAST);
            alikeDue("-1 and itself", order, -1, -1);
        }
        alikeDue("even ones", 4, LEAST, MOST - 1);
        alikeDue("odd ones", 4, MOST, -1);
        alikeDue("0 and 256", 5, 0, 256);
        alikeDue("255 and -1", 5, 255, -1);
        alikeDue("the least long and 0 by their lowest byte", 5, LEAST, 0);
    }

    /** Every byte of a key at its edges: each of eight places, in the ways and orders that can. */
    private static void countedBytes() {
        for (int shift = 0; shift < 64; shift += 8) {
            int by = shift;
            CHECK.test("11 sort, WAYS: a byte's edges at bit " + shift, () -> {
                long[] keys = new long[BYTES.length];
                for (int i = 0; i < BYTES.length; i++) {
                    keys[i] = BYTES[i] << by;
                }
                boolean highest = by == 56;
                long[] bySign = {keys[3], keys[4], keys[0], keys[1], keys[2]};
                long[] rising = highest ? bySign : keys;
                for (int way = 0; way < WAYS; way++) {
                    due(at(way, 0), sortedKeys(way, 0, turned(keys)), Check.text(rising));
                    due(at(way, 1), sortedKeys(way, 1, keys), Check.text(turned(rising)));
                    due(at(way, 2), sortedKeys(way, 2, turned(keys)), Check.text(keys));
                }
                // By their lowest byte keys that have other bytes alone are ALIKE, and stay as they stood.
                for (int way : new int[] {0, 4, 5, 6}) {
                    due(at(way, 5), sortedKeys(way, 5, turned(keys)), Check.text(by == 0 ? keys : turned(keys)));
                }
            });
        }
    }

    private static void unsteadyDue(String test, int order, String want, long... keysAndTags) {
        for (int way = 1; way <= 3; way++) {
            int by = way;
            CHECK.test("11 sort, STEADY: way " + way + ", " + test, () -> {
                Bench bench = Check.benchOfEntries(keysAndTags);
                bench.sort(0, by, order);
                due("row", Check.read(bench, 0), want);
            });
        }
    }

    private static void standingByTags() {
        String byTags = "7:" + LEAST_INT + " 7:-1 7:0 7:1 7:" + MOST_INT;
        for (int order = 0; order < ORDERS; order++) {
            unsteadyDue("ALIKE ones by their tags, the least and the greatest, order " + order, order, byTags,
                    7, MOST_INT, 7, 0, 7, LEAST_INT, 7, 1, 7, -1);
        }
        unsteadyDue("the order before the tags", 0, "1:9 2:5 3:0", 3, 0, 2, 5, 1, 9);
        unsteadyDue("the tags before the keys", 4, "8:-3 2:4 5:1 3:2", 3, 2, 2, 4, 5, 1, 8, -3);
    }

    private static void standingByKeys() {
        unsteadyDue("of the same tag by their keys, even ones", 4, LEAST + ":1 -2:1 0:1 " + (MOST - 1) + ":1",
                0, 1, MOST - 1, 1, LEAST, 1, -2, 1);
        unsteadyDue("of the same tag by their keys, one lowest byte", 5, LEAST + ":1 -256:1 0:1 256:1",
                256, 1, 0, 1, LEAST, 1, -256, 1);
        unsteadyDue("of the same tag and key", 0, "5:1 5:1 5:1", 5, 1, 5, 1, 5, 1);
    }

    private static void steadyOnes() {
        for (int way : new int[] {0, 4, 5, 6}) {
            CHECK.test("11 sort, STEADY: way " + way + ", ALIKE ones stay as they stood", () -> {
                Bench bench = Check.benchOfEntries(0x105, MOST_INT, 0x001, 9, -251, LEAST_INT, 5, 0, LEAST + 5, -1);
                bench.sort(0, way, 5);
                due("row", Check.read(bench, 0), "1:9 261:2147483647 -251:-2147483648 5:0 " + (LEAST + 5) + ":-1");
            });
            CHECK.test("11 sort, STEADY: way " + way + ", a full row of one key stays", () -> {
                Bench bench = new Bench();
                bench.fill(0, ROOM, 0, 9, 0);
                long mark = bench.mark(0);
                bench.sort(0, way, 0);
                due("mark", bench.mark(0), mark);
            });
        }
        for (int way = 0; way < WAYS; way++) {
            int by = way;
            CHECK.test("11 sort, STEADY: way " + way + ", a row in order stays", () -> {
                Bench bench = new Bench();
                bench.fill(0, ROOM, 0, LEAST, 1000);
                long mark = bench.mark(0);
                bench.sort(0, by, 0);
                due("mark", bench.mark(0), mark);
            });
        }
    }

    private static void sizes() {
        for (int way = 0; way < WAYS; way++) {
            int by = way;
            CHECK.test("11 sort: way " + way + ", an empty row", () -> {
                Bench bench = Check.laidBench();
                bench.sort(2, by, 0);
                due("rows", Check.readAll(bench), Check.readAll(Check.laidBench()));
            });
            CHECK.test("11 sort: way " + way + ", one entry", () -> {
                Bench bench = Check.benchOfEntries(LEAST, MOST_INT);
                bench.sort(0, by, 0);
                due("row", Check.read(bench, 0), LEAST + ":2147483647");
            });
            CHECK.test("11 sort: way " + way + ", two entries", () -> {
                due("in order", sortedKeys(by, 0, 3, 4), "3 4");
                due("not in order", sortedKeys(by, 0, 4, 3), "3 4");
            });
            CHECK.test("11 sort: way " + way + ", a full row the other way round", () -> {
                Bench bench = new Bench();
                bench.fill(0, ROOM, 1, 0, 1);
                bench.sort(0, by, 0);
                due("the first entry", bench.key(0, 0) + ":" + bench.tag(0, 0), "0:1023");
                due("the last entry", bench.key(0, ROOM - 1) + ":" + bench.tag(0, ROOM - 1), "1023:0");
                due("size", bench.size(0), ROOM);
                bench.number(0);
                due("mark of keys", bench.mark(0), -5574989896218795001L);
            });
            CHECK.test("11 sort: way " + way + ", the last entry of a full row comes first", () -> {
                Bench bench = new Bench();
                bench.fill(0, ROOM, 0, 1, 1);
                bench.cut(0, ROOM - 1);
                bench.add(0, 0, -5);
                bench.sort(0, by, 0);
                due("the first entry", bench.key(0, 0) + ":" + bench.tag(0, 0), "0:-5");
                due("the last entry", bench.key(0, ROOM - 1) + ":" + bench.tag(0, ROOM - 1), "1023:1022");
                bench.number(0);
                due("mark of keys", bench.mark(0), -5574989896218795001L);
            });
            CHECK.test("11 sort: way " + way + ", other rows stay", () -> {
                Bench bench = Check.laidBench();
                bench.sort(1, by, 0);
                due("row 1", Check.read(bench, 1), "-2:8 0:3 4:8 9:1");
                Check.put(bench, 1);
                Bench other = Check.laidBench();
                Check.put(other, 1);
                due("the others", Check.readAll(bench), Check.readAll(other));
            });
        }
    }

    private static void refusals() {
        for (int way : new int[] {-1, 7, LEAST_INT, MOST_INT}) {
            CHECK.refused("11 sort: there is no way " + way, Check.ARGUMENT, bench -> bench.sort(1, way, 0));
            CHECK.refused("11 sort: there is no way " + way + ", an empty row", Check.ARGUMENT,
                    bench -> bench.sort(2, way, 0));
        }
        for (int way = 0; way < WAYS; way++) {
            int by = way;
            CHECK.refusesOrders("11 sort in way " + way, (bench, order) -> bench.sort(1, by, order));
        }
        for (int order : new int[] {3, 4, 6, 7}) {
            CHECK.refused("11 sort: way 6 is not for order " + order, Check.ARGUMENT, bench -> bench.sort(1, 6, order));
            CHECK.refused("11 sort: way 6 is not for order " + order + ", an empty row", Check.ARGUMENT,
                    bench -> bench.sort(2, 6, order));
            CHECK.refused("11 sort: way 6 is not for order " + order + ", a row in this order", Check.ARGUMENT,
                    bench -> bench.sort(0, 6, order));
        }
        CHECK.refused("11 sort: neither way nor order is there", Check.ARGUMENT, bench -> bench.sort(1, 7, 8));
        CHECK.refusesRows("11 sort", (bench, row) -> bench.sort(row, 0, 0));
        CHECK.refused("11 sort: no such row, and no such way", Check.PLACE, bench -> bench.sort(4, 7, 0));
        CHECK.refused("11 sort: no such row, and no such order", Check.PLACE, bench -> bench.sort(-1, 0, 8));
        CHECK.refused("11 sort: no such row, and way 6 not for that order", Check.PLACE, bench -> bench.sort(4, 6, 3));
    }

    private static void withinDue(String test, int way, int n) {
        for (int kind = 0; kind < 6; kind++) {
            int of = kind;
            CHECK.test("12 within: way " + way + ", " + test + " of kind " + kind, () -> {
                Bench bench = new Bench();
                for (int order = 0; order < ORDERS; order++) {
                    if (fits(way, order)) {
                        bench.fill(0, n, of, 0x1234567890ABCDEFL, 11);
                        bench.sort(0, way, order);
                        due("within() behind order " + order, bench.within(), true);
                    }
                }
            });
        }
    }

    private static void withinBeforeAndBehind() {
        CHECK.test("12 within: before the first sort()", () -> {
            Bench bench = new Bench();
            due("within() of a new object", bench.within(), true);
            bench.fill(0, ROOM, 1, 0, 1);
            bench.inversions(0, 0);
            bench.front(0, 0, ROOM);
            due("within() behind other calls", bench.within(), true);
        });
        CHECK.test("12 within: behind a sort() that was refused", () -> {
            Bench bench = new Bench();
            due("sort", Check.answerOf(() -> bench.sort(0, 7, 0)), Check.ARGUMENT);
            due("within()", bench.within(), true);
            bench.sort(0, 6, 0);
            due("sort", Check.answerOf(() -> bench.sort(0, 6, 3)), Check.ARGUMENT);
            due("within()", bench.within(), true);
        });
        CHECK.test("12 within: behind comparisons of other calls than sort()", () -> {
            Bench bench = Check.laidBench();
            bench.sort(0, 6, 0);
            bench.inversions(3, 0);
            bench.climb(3, 0);
            bench.front(3, 0, ROOM);
            bench.sort(2, 0, 0);
            due("within()", bench.within(), true);
        });
        for (int way = 0; way < WAYS; way++) {
            withinDue("no entries", way, 0);
            withinDue("one entry", way, 1);
            withinDue("two entries", way, 2);
            withinDue("three entries", way, 3);
            withinDue("1,023 entries", way, ROOM - 1);
            withinDue("1,024 entries", way, ROOM);
        }
    }
}

/** The edges that the document names for promises 19 to 21: rows are merged, made single, and brought to the front. */
public final class EdgeChangeTest {
    private static final Check CHECK = new Check("EdgeChangeTest");
    private static final long LEAST = Check.LEAST;
    private static final long MOST = Check.MOST;
    private static final int ROOM = Check.ROOM;
    private static final int LEAST_INT = Integer.MIN_VALUE;
    private static final int MOST_INT = Integer.MAX_VALUE;
    private static final int ORDERS = 8;

    public static void main(String[] args) {
        merges();
        mergesIntoOneOfThem();
        mergesUpToTheRoom();
        mergeRefusals();
        mergeRefusalsOfSeveral();
        singles();
        singleRefusals();
        fronts();
        fullFronts();
        frontRefusals();
        CHECK.end();
    }

    private static void due(String what, Object got, Object want) {
        CHECK.due(what, got, want);
    }

    /** Rows 0 and 1 are in order 0 and have keys in common, row 2 is empty, and row 3 has other entries. */
    private static Bench twoRows() {
        Bench bench = new Bench();
        bench.add(0, 2, 1);
        bench.add(0, 4, 2);
        bench.add(0, 4, 3);
        bench.add(1, 1, 11);
        bench.add(1, 4, 12);
        bench.add(1, 5, 13);
        bench.fill(3, 9, 1, 0, 1);
        return bench;
    }

    private static void mergeDue(String test, String want, int a, int b, int to) {
        CHECK.test("19 merge: " + test, () -> {
            Bench bench = twoRows();
            int many = bench.merge(a, b, to, 0);
            due("size", bench.size(to), many);
            due("row " + to, Check.read(bench, to), want);
            Bench other = twoRows();
            bench.cut(to, 0);
            other.cut(to, 0);
            due("the other rows", Check.readAll(bench), Check.readAll(other));
        });
    }

    private static void merges() {
        mergeDue("ALIKE ones of a first", "1:11 2:1 4:2 4:3 4:12 5:13", 0, 1, 2);
        mergeDue("ALIKE ones of a first, the rows changed", "1:11 2:1 4:12 4:2 4:3 5:13", 1, 0, 2);
        mergeDue("in place of what a row has", "1:11 2:1 4:2 4:3 4:12 5:13", 0, 1, 3);
        mergeDue("a is empty", "2:1 4:2 4:3", 2, 0, 3);
        mergeDue("b is empty", "2:1 4:2 4:3", 0, 2, 3);
        mergeDue("both are empty", "", 2, 2, 3);
        mergeDue("a row that has nothing, from empty ones", "", 2, 2, 2);
        CHECK.test("19 merge: how many", () -> {
            due("three and three", twoRows().merge(0, 1, 2, 0), 6);
            due("none and three", twoRows().merge(2, 1, 3, 0), 3);
            due("none and none", twoRows().merge(2, 2, 3, 0), 0);
        });
        CHECK.test("19 merge: the least and the greatest long", () -> {
            Bench bench = Check.benchOf(LEAST, 0, MOST);
            Check.put(bench, 1, LEAST, MOST);
            due("merge", bench.merge(0, 1, 2, 0), 5);
            due("row 2", Check.read(bench, 2),
                    LEAST + ":0 " + LEAST + ":0 0:1 " + MOST + ":2 " + MOST + ":1");
        });
        for (int order = 0; order < ORDERS; order++) {
            int by = order;
            CHECK.test("19 merge: ALIKE ones alone, order " + order, () -> {
                Bench bench = new Bench();
                bench.add(0, 6, 9);
                bench.add(0, 6, 8);
                bench.add(1, 6, 1);
                bench.merge(0, 1, 3, by);
                due("row 3", Check.read(bench, 3), "6:9 6:8 6:1");
            });
        }
    }

    private static void mergesIntoOneOfThem() {
        mergeDue("to is a", "1:11 2:1 4:2 4:3 4:12 5:13", 0, 1, 0);
        mergeDue("to is b", "1:11 2:1 4:2 4:3 4:12 5:13", 0, 1, 1);
        mergeDue("to is a, b is empty", "2:1 4:2 4:3", 0, 2, 0);
        mergeDue("to is b, which is empty", "2:1 4:2 4:3", 0, 2, 2);
        mergeDue("to is a, which is empty", "2:1 4:2 4:3", 2, 0, 2);
        mergeDue("a and b are one", "2:1 2:1 4:2 4:3 4:2 4:3", 0, 0, 2);
        mergeDue("all three are one", "2:1 2:1 4:2 4:3 4:2 4:3", 0, 0, 0);
    }

    private static void mergeOfDue(String test, Object want, int first, int second, int to) {
        CHECK.test("19 merge: " + test, () -> {
            Bench bench = new Bench();
            bench.fill(0, first, 0, 0, 1);
            bench.fill(1, second, 0, 500, 1);
            String before = Check.readAll(bench);
            due("merge", Check.answerOf(() -> bench.merge(0, 1, to, 0)), want);
            if (want instanceof Integer) {
                due("size", bench.size(to), want);
                due("sorted", bench.sorted(to, 0), true);
            } else {
                due("what stands behind it", Check.readAll(bench), before);
            }
        });
    }

    private static void mergesUpToTheRoom() {
        mergeOfDue("1,000 and 24", ROOM, 1000, 24, 2);
        mergeOfDue("1,000 and 25", Check.STATE, 1000, 25, 2);
        mergeOfDue("1 and 1,023, into a", ROOM, 1, 1023, 0);
        mergeOfDue("1 and 1,024, into a", Check.STATE, 1, ROOM, 0);
        mergeOfDue("512 and 512, into b", ROOM, 512, 512, 1);
        mergeOfDue("513 and 512, into b", Check.STATE, 513, 512, 1);
        mergeOfDue("none and a full row, into it", ROOM, 0, ROOM, 1);
        mergeOfDue("a full row and none, into the empty one", ROOM, ROOM, 0, 1);
        mergeOfDue("a full row and one more", Check.STATE, ROOM, 1, 3);
        mergeOfDue("two full rows", Check.STATE, ROOM, ROOM, 3);
        CHECK.test("19 merge: one row of 512 twice, into itself", () -> {
            Bench bench = new Bench();
            bench.fill(2, 512, 0, 0, 1);
            due("merge", bench.merge(2, 2, 2, 0), ROOM);
            due("the ends", bench.key(2, 0) + " " + bench.key(2, 1) + " " + bench.key(2, ROOM - 1), "0 0 511");
        });
        CHECK.test("19 merge: one row of 513 twice", () -> {
            Bench bench = new Bench();
            bench.fill(2, 513, 0, 0, 1);
            String before = Check.readAll(bench);
            due("merge", Check.answerOf(() -> bench.merge(2, 2, 3, 0)), Check.STATE);
            due("what stands behind it", Check.readAll(bench), before);
        });
    }

    private static void mergeRefusals() {
        for (int order = 0; order < ORDERS; order++) {
            int by = order;
            CHECK.refused("19 merge: a is not in order " + order, Check.STATE, bench -> bench.merge(1, 2, 0, by));
            CHECK.refused("19 merge: b is not in order " + order, Check.STATE, bench -> bench.merge(2, 1, 0, by));
        }
        CHECK.refused("19 merge: in order 0, but not in order 1", Check.STATE, bench -> bench.merge(0, 2, 2, 1));
        CHECK.refused("19 merge: one row that is not in order", Check.STATE, bench -> bench.merge(1, 1, 1, 0));
        CHECK.test("19 merge: the row to need not be in order", () -> {
            Bench bench = Check.laidBench();
            due("merge", bench.merge(0, 2, 1, 0), 4);
            due("row 1", Check.read(bench, 1), "1:5 3:-2 3:9 7:0");
        });
        CHECK.refusesRows("19 merge, a", (bench, row) -> bench.merge(row, 0, 2, 0));
        CHECK.refusesRows("19 merge, b", (bench, row) -> bench.merge(0, row, 2, 0));
        CHECK.refusesRows("19 merge, to", (bench, row) -> bench.merge(0, 0, row, 0));
        CHECK.refusesOrders("19 merge", (bench, order) -> bench.merge(0, 0, 2, order));
        CHECK.refusesOrders("19 merge of empty rows", (bench, order) -> bench.merge(2, 2, 2, order));
    }

    private static void mergeRefusalsOfSeveral() {
        CHECK.refused("19 merge: no row a, no such order", Check.PLACE, bench -> bench.merge(4, 0, 2, 8));
        CHECK.refused("19 merge: no row b, no such order", Check.PLACE, bench -> bench.merge(0, -1, 2, -1));
        CHECK.refused("19 merge: no row to, no such order", Check.PLACE, bench -> bench.merge(0, 0, 4, 8));
        CHECK.refused("19 merge: no row b, a not in order", Check.PLACE, bench -> bench.merge(1, 4, 2, 0));
        CHECK.refused("19 merge: no row a, b not in order", Check.PLACE, bench -> bench.merge(4, 1, 2, 0));
        CHECK.refused("19 merge: no row to, a not in order", Check.PLACE, bench -> bench.merge(1, 0, 4, 0));
        CHECK.refused("19 merge: no row to, too many", Check.PLACE, bench -> bench.merge(3, 3, -1, 0));
        CHECK.refused("19 merge: no such order, not in order", Check.ARGUMENT, bench -> bench.merge(1, 1, 2, 8));
        CHECK.refused("19 merge: no such order, too many", Check.ARGUMENT, bench -> bench.merge(3, 3, 2, -1));
        CHECK.refused("19 merge: not in order, and too many", Check.STATE, bench -> bench.merge(3, 3, 2, 0));
    }

    private static void singleDue(String test, String want, int order, long... keys) {
        CHECK.test("20 single: " + test, () -> {
            Bench bench = Check.benchOf(keys);
            int left = bench.single(0, order);
            due("row", Check.read(bench, 0), want);
            due("how many are left", left, bench.size(0));
        });
    }

    private static void fullSingleDue(String test, int want, int order, long first, int step) {
        CHECK.test("20 single: " + test, () -> {
            Bench bench = new Bench();
            bench.fill(3, ROOM, 0, first, step);
            due("single", bench.single(3, order), want);
            due("size", bench.size(3), want);
            due("the first entry", bench.key(3, 0) + ":" + bench.tag(3, 0), first + ":0");
        });
    }

    private static void singles() {
        for (int order = 0; order < ORDERS; order++) {
            singleDue("an empty row, order " + order, "", order);
            singleDue("one entry, order " + order, LEAST + ":0", order, LEAST);
            singleDue("ALIKE ones alone, the first stays, order " + order, "-6:0", order, -6, -6, -6);
        }
        singleDue("none is ALIKE to another one", LEAST + ":0 0:1 " + MOST + ":2", 0, LEAST, 0, MOST);
        singleDue("the first two", "3:0 4:2", 0, 3, 3, 4);
        singleDue("the last two", "3:0 4:1", 0, 3, 4, 4);
        singleDue("ALIKE ones that are not the same", "4:0 5:3", 4, 4, 2, 8, 5, 3);
        singleDue("the same lowest byte", "257:0 258:2", 5, 0x101, 0x201, 0x102, -254);
        CHECK.test("20 single: the first of such stays, whatever the tags are", () -> {
            Bench bench = Check.benchOfEntries(4, MOST_INT, 4, 0, 4, LEAST_INT, 5, 1);
            due("single", bench.single(0, 0), 2);
            due("row", Check.read(bench, 0), "4:2147483647 5:1");
        });
        CHECK.test("20 single: what went is gone", () -> {
            Bench bench = Check.benchOf(4, 4, 4);
            bench.single(0, 0);
            due("key(0, 1)", Check.answerOf(() -> bench.key(0, 1)), Check.PLACE);
            due("add", bench.add(0, 8, 8), 2);
        });
        fullSingleDue("a full row of one key", 1, 7, 9, 0);
        fullSingleDue("a full row without ALIKE ones", ROOM, 0, LEAST, 1);
        fullSingleDue("a full row of one lowest byte", 1, 5, -3, 256);
        CHECK.test("20 single: other rows stay", () -> {
            Bench bench = Check.laidBench();
            due("single", bench.single(0, 0), 3);
            bench.cut(0, 0);
            Bench other = Check.laidBench();
            other.cut(0, 0);
            due("the others", Check.readAll(bench), Check.readAll(other));
        });
    }

    private static void singleRefusals() {
        for (int order = 0; order < ORDERS; order++) {
            int by = order;
            CHECK.refused("20 single: not in order " + order, Check.STATE, bench -> bench.single(1, by));
            CHECK.refused("20 single: a full row not in order " + order, Check.STATE, bench -> bench.single(3, by));
        }
        CHECK.refused("20 single: in order 0, but not in order 1", Check.STATE, bench -> bench.single(0, 1));
        CHECK.test("20 single: only the last entry is out of order", () -> {
            Bench bench = Check.benchOf(2, 2, 3, 1);
            due("single", Check.answerOf(() -> bench.single(0, 0)), Check.STATE);
            due("row", Check.readKeys(bench, 0), "2 2 3 1");
        });
        CHECK.refusesRows("20 single", (bench, row) -> bench.single(row, 0));
        CHECK.refusesOrders("20 single", (bench, order) -> bench.single(0, order));
        CHECK.refusesOrders("20 single of an empty row", (bench, order) -> bench.single(2, order));
        CHECK.refused("20 single: no such row, and no such order", Check.PLACE, bench -> bench.single(4, 8));
        CHECK.refused("20 single: no such order, and not in order", Check.ARGUMENT, bench -> bench.single(1, 8));
    }

    private static void frontDue(String test, String want, int order, int k, long... keys) {
        CHECK.test("21 front: " + test, () -> {
            Bench bench = Check.benchOf(keys);
            bench.front(0, order, k);
            due("row", Check.read(bench, 0), want);
        });
    }

    private static void fronts() {
        for (int order = 0; order < ORDERS; order++) {
            frontDue("none of an empty row, order " + order, "", order, 0);
            frontDue("none of one entry, order " + order, LEAST + ":0", order, 0, LEAST);
            frontDue("one of one entry, order " + order, LEAST + ":0", order, 1, LEAST);
            frontDue("two of ALIKE ones, order " + order, "6:0 6:1 6:2", order, 2, 6, 6, 6);
        }
        frontDue("none", "5:0 3:1 9:2 3:3", 0, 0, 5, 3, 9, 3);
        frontDue("one, of ALIKE ones that stands first", "3:1 5:0 9:2 3:3", 0, 1, 5, 3, 9, 3);
        frontDue("two, the others as they stood", "3:1 3:3 9:0 5:2 7:4", 0, 2, 9, 3, 5, 3, 7);
        frontDue("all but one", "3:1 3:3 5:0 9:2", 0, 3, 5, 3, 9, 3);
        frontDue("all", "3:1 3:3 5:0 9:2", 0, 4, 5, 3, 9, 3);
        frontDue("the least and the greatest long", LEAST + ":2 " + MOST + ":0 0:1", 0, 1, MOST, 0, LEAST);
        frontDue("of ALIKE ones those that stand first", "2:1 4:3 5:0 3:2 6:4", 4, 2, 5, 2, 3, 4, 6);
        CHECK.test("21 front: of ALIKE ones those that stand first, whatever the tags are", () -> {
            Bench bench = Check.benchOfEntries(7, 0, 4, MOST_INT, 4, LEAST_INT, 4, 0);
            bench.front(0, 0, 2);
            due("row", Check.read(bench, 0), "4:2147483647 4:-2147483648 7:0 4:0");
        });
        CHECK.test("21 front: other rows stay", () -> {
            Bench bench = Check.laidBench();
            bench.front(1, 0, 2);
            due("row 1", Check.read(bench, 1), "-2:8 0:3 4:8 9:1");
            bench.cut(1, 0);
            Bench other = Check.laidBench();
            other.cut(1, 0);
            due("the others", Check.readAll(bench), Check.readAll(other));
        });
    }

    private static void fullFrontDue(String test, int k, String want) {
        CHECK.test("21 front: " + test, () -> {
            Bench bench = new Bench();
            bench.fill(3, ROOM, 1, 0, 1);
            bench.front(3, 0, k);
            StringBuilder text = new StringBuilder();
            for (int i : new int[] {0, 1, 511, 512, 1022, 1023}) {
                text.append(bench.key(3, i)).append(':').append(bench.tag(3, i)).append(' ');
            }
            due("size", bench.size(3), ROOM);
            due("entries", text.toString().trim(), want);
        });
    }

    private static void fullFronts() {
        fullFrontDue("none of a full row", 0, "1023:0 1022:1 512:511 511:512 1:1022 0:1023");
        fullFrontDue("one of a full row", 1, "0:1023 1023:0 513:510 512:511 2:1021 1:1022");
        fullFrontDue("half of a full row", 512, "0:1023 1:1022 511:512 1023:0 513:510 512:511");
        fullFrontDue("all but one of a full row", 1023, "0:1023 1:1022 511:512 512:511 1022:1 1023:0");
        fullFrontDue("all of a full row", 1024, "0:1023 1:1022 511:512 512:511 1022:1 1023:0");
    }

    private static void frontRefusals() {
        for (int k : new int[] {-1, 5, LEAST_INT, MOST_INT}) {
            CHECK.refused("21 front: k is " + k + " of 4", Check.ARGUMENT, bench -> bench.front(1, 0, k));
        }
        CHECK.refused("21 front: k is 1 of an empty row", Check.ARGUMENT, bench -> bench.front(2, 0, 1));
        CHECK.refused("21 front: k is -1 of an empty row", Check.ARGUMENT, bench -> bench.front(2, 0, -1));
        CHECK.refused("21 front: k is 1,025 of a full row", Check.ARGUMENT, bench -> bench.front(3, 0, ROOM + 1));
        CHECK.refusesRows("21 front", (bench, row) -> bench.front(row, 0, 0));
        CHECK.refusesOrders("21 front", (bench, order) -> bench.front(1, order, 2));
        CHECK.refusesOrders("21 front of none", (bench, order) -> bench.front(2, order, 0));
        CHECK.refused("21 front: neither order nor k is right", Check.ARGUMENT, bench -> bench.front(1, 8, 5));
        CHECK.refused("21 front: no such row, and no such order", Check.PLACE, bench -> bench.front(4, 8, 0));
        CHECK.refused("21 front: no such row, and k below 0", Check.PLACE, bench -> bench.front(-1, 0, -1));
        CHECK.refused("21 front: no such row, and k too large", Check.PLACE, bench -> bench.front(4, 0, ROOM + 1));
    }
}

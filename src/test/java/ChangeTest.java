/** Promises 19 to 21: rows are merged, made single, and brought to the front. */
public final class ChangeTest {
    private static final Check CHECK = new Check("ChangeTest");

    public static void main(String[] args) {
        merges();
        mergesIntoOneOfThem();
        mergesUpToTheRoom();
        refusesMerges();
        makesSingle();
        refusesSingle();
        bringsToFront();
        refusesFront();
        withinStays();
        CHECK.end();
    }

    private static void due(String what, Object got, Object want) {
        CHECK.due(what, got, want);
    }

    private static OrderBench twoRows() {
        OrderBench bench = new OrderBench();
        bench.add(0, 2, 1);
        bench.add(0, 4, 2);
        bench.add(0, 4, 3);
        bench.add(1, 1, 11);
        bench.add(1, 4, 12);
        bench.add(1, 5, 13);
        return bench;
    }

    private static void merges() {
        OrderBench bench = twoRows();
        bench.fill(2, 100, 1, 5, 5);
        due("merge", bench.merge(0, 1, 2, 0), 6);
        due("merged", Check.read(bench, 2), "1:11 2:1 4:2 4:3 4:12 5:13");
        due("row 0 stays", Check.read(bench, 0), "2:1 4:2 4:3");
        due("row 1 stays", Check.read(bench, 1), "1:11 4:12 5:13");
        due("merge the other way", bench.merge(1, 0, 2, 0), 6);
        due("merged the other way", Check.read(bench, 2), "1:11 2:1 4:12 4:2 4:3 5:13");
        due("merge with an empty row", bench.merge(3, 0, 2, 0), 3);
        due("merged with an empty row", Check.read(bench, 2), "2:1 4:2 4:3");
        due("merge of empty rows", bench.merge(3, 3, 2, 0), 0);
        due("merged of empty rows", bench.size(2), 0);
        bench.sort(0, 4, 4);
        bench.sort(1, 4, 4);
        due("merge by parity", bench.merge(0, 1, 3, 4), 6);
        due("merged by parity", Check.read(bench, 3), "2:1 4:2 4:3 4:12 1:11 5:13");
    }

    private static void mergesIntoOneOfThem() {
        OrderBench bench = twoRows();
        due("merge into a", bench.merge(0, 1, 0, 0), 6);
        due("merged into a", Check.read(bench, 0), "1:11 2:1 4:2 4:3 4:12 5:13");
        bench = twoRows();
        due("merge into b", bench.merge(0, 1, 1, 0), 6);
        due("merged into b", Check.read(bench, 1), "1:11 2:1 4:2 4:3 4:12 5:13");
        due("merge of one row", bench.merge(0, 0, 2, 0), 6);
        due("merged of one row", Check.read(bench, 2), "2:1 2:1 4:2 4:3 4:2 4:3");
        due("merge of one row into itself", bench.merge(0, 0, 0, 0), 6);
        due("merged of one row into itself", Check.read(bench, 0), "2:1 2:1 4:2 4:3 4:2 4:3");
    }

    private static void mergesUpToTheRoom() {
        OrderBench bench = new OrderBench();
        bench.fill(0, 1000, 0, 0, 1);
        bench.fill(1, 24, 0, 500, 1);
        due("merge of 1024", bench.merge(0, 1, 1, 0), 1024);
        due("a merged full row", bench.size(1) + " " + bench.key(1, 1023) + " " + bench.sorted(1, 0), "1024 999 true");
        bench.fill(1, 25, 0, 500, 1);
        CHECK.state("merge of 1025", bench, () -> bench.merge(0, 1, 2, 0));
        bench.fill(2, 513, 0, 0, 1);
        CHECK.state("merge of 513 twice", bench, () -> bench.merge(2, 2, 3, 0));
        bench.cut(2, 512);
        due("merge of 512 twice", bench.merge(2, 2, 2, 0), 1024);
        due("merge of a full and an empty row", bench.merge(2, 3, 3, 0), 1024);
    }

    private static void refusesMerges() {
        OrderBench bench = twoRows();
        Check.put(bench, 2, 2, 1);
        CHECK.state("merge with a not in order", bench, () -> bench.merge(2, 0, 3, 0));
        CHECK.state("merge with b not in order", bench, () -> bench.merge(0, 2, 3, 0));
        CHECK.state("merge by another order", bench, () -> bench.merge(0, 1, 3, 1));
        CHECK.argument("merge by order 8, not in order", bench, () -> bench.merge(2, 0, 3, 8));
        CHECK.argument("merge by order -1", bench, () -> bench.merge(0, 1, 3, -1));
        for (int row : new int[] {-1, 4}) {
            CHECK.place("merge of " + row, bench, () -> bench.merge(row, 1, 2, 0));
            CHECK.place("merge with " + row, bench, () -> bench.merge(0, row, 2, 0));
            CHECK.place("merge into " + row, bench, () -> bench.merge(0, 1, row, 0));
            CHECK.place("merge into " + row + ", all wrong", bench, () -> bench.merge(2, 2, row, 9));
        }
    }

    private static void makesSingle() {
        OrderBench bench = Check.benchOf(1, 3, 3, 3, 7, 7);
        due("single", bench.single(0, 0), 3);
        due("made single", Check.read(bench, 0), "1:0 3:1 7:4");
        due("single again", bench.single(0, 0), 3);
        due("single by parity", bench.single(0, 4), 1);
        due("made single by parity", Check.read(bench, 0), "1:0");
        Check.put(bench, 0, 4, 2, 8, 5, 3);
        due("single by parity", bench.single(0, 4), 2);
        due("made single by parity", Check.read(bench, 0), "4:0 5:3");
        due("single of an empty row", bench.single(1, 0), 0);
        bench.fill(0, 1024, 0, 9, 0);
        due("single of a full row", bench.single(0, 7), 1);
        due("made single of a full row", Check.read(bench, 0), "9:0");
        Check.put(bench, 0, 0x101, 0x201, 0x102);
        due("single by the lowest byte", bench.single(0, 5), 2);
        due("made single by the lowest byte", Check.read(bench, 0), "257:0 258:2");
    }

    private static void refusesSingle() {
        OrderBench bench = Check.benchOf(2, 2, 1);
        CHECK.state("single, not in order", bench, () -> bench.single(0, 0));
        CHECK.argument("single by order 8", bench, () -> bench.single(0, 8));
        CHECK.argument("single by order -1 of an empty row", bench, () -> bench.single(1, -1));
        CHECK.place("single of row 4", bench, () -> bench.single(4, 0));
        CHECK.place("single of row -1, no such order", bench, () -> bench.single(-1, 8));
    }

    private static String fronted(int order, int k, long... keys) {
        OrderBench bench = Check.benchOf(keys);
        bench.front(0, order, k);
        return Check.read(bench, 0);
    }

    private static void bringsToFront() {
        due("front of 0", fronted(0, 0, 5, 3, 9, 3), "5:0 3:1 9:2 3:3");
        due("front of 1", fronted(0, 1, 5, 3, 9, 3), "3:1 5:0 9:2 3:3");
        due("front of 2", fronted(0, 2, 5, 3, 9, 3), "3:1 3:3 5:0 9:2");
        due("front of all", fronted(0, 4, 5, 3, 9, 3), "3:1 3:3 5:0 9:2");
        due("front, the greater first", fronted(1, 1, 5, 3, 9, 3), "9:2 5:0 3:1 3:3");
        due("front by parity", fronted(4, 3, 5, 2, 9, 4, 3), "2:1 4:3 5:0 9:2 3:4");
        due("front of an empty row", fronted(0, 0), "");
        OrderBench bench = new OrderBench();
        bench.add(0, 8, 40);
        bench.add(0, 7, 1000);
        bench.add(0, 6, -5);
        bench.front(0, 0, 2);
        due("front with other tags", Check.read(bench, 0), "6:-5 7:1000 8:40");
        bench.fill(1, 1024, 1, 0, 1);
        bench.front(1, 0, 1023);
        due("front of a full row", bench.key(1, 0) + " " + bench.key(1, 1022) + " " + bench.key(1, 1023), "0 1022 1023");
        due("front of another row", Check.read(bench, 0), "6:-5 7:1000 8:40");
    }

    private static void refusesFront() {
        OrderBench bench = Check.benchOf(2, 2, 1);
        CHECK.argument("front of 4", bench, () -> bench.front(0, 0, 4));
        CHECK.argument("front of -1", bench, () -> bench.front(0, 0, -1));
        CHECK.argument("front by order 8", bench, () -> bench.front(0, 8, 1));
        CHECK.argument("front by order -1", bench, () -> bench.front(0, -1, 1));
        CHECK.argument("front of 1 in an empty row", bench, () -> bench.front(1, 0, 1));
        CHECK.place("front of row 4", bench, () -> bench.front(4, 0, 1));
        CHECK.place("front of row -1, all wrong", bench, () -> bench.front(-1, 9, -1));
    }

    private static void withinStays() {
        OrderBench bench = Check.benchOf(3, 2, 2, 1);
        bench.sort(0, 6, 0);
        bench.fill(1, 1000, 1, 0, 1);
        bench.front(1, 0, 999);
        bench.inversions(1, 0);
        due("within() behind comparisons of others than sort()", bench.within(), true);
    }
}

/** Promises 19 to 21 with ordinary inputs: rows are merged, made single, and brought to the front. */
public final class ChangeTest {
    private static final Check CHECK = new Check("ChangeTest");

    public static void main(String[] args) {
        CHECK.test("19 merge", ChangeTest::merges);
        CHECK.test("19 merge by parity", ChangeTest::mergesByParity);
        CHECK.test("20 single", ChangeTest::makesSingle);
        CHECK.test("21 front", ChangeTest::bringsToFront);
        CHECK.end();
    }

    private static void due(String what, Object got, Object want) {
        CHECK.due(what, got, want);
    }

    private static void merges() {
        Bench bench = Check.benchOfEntries(1, 5, 6, 4, 8, 3);
        Check.put(bench, 1, 2, 6, 7, 9);
        due("merge", bench.merge(0, 1, 2, 0), 7);
        due("rows", Check.readAll(bench), "1:5 6:4 8:3 / 2:0 6:1 7:2 9:3 / 1:5 2:0 6:4 6:1 7:2 8:3 9:3 /  / true");
        due("merge again", bench.merge(1, 2, 3, 0), 11);
        due("row 3", Check.read(bench, 3), "1:5 2:0 2:0 6:1 6:4 6:1 7:2 7:2 8:3 9:3 9:3");
    }

    private static void mergesByParity() {
        Bench bench = Check.benchOf(8, 2, 5);
        Check.put(bench, 1, 4, 3, 1);
        due("merge", bench.merge(0, 1, 3, 4), 6);
        due("row 3", Check.read(bench, 3), "8:0 2:1 4:0 5:2 3:1 1:2");
    }

    private static void makesSingle() {
        Bench bench = Check.benchOf(1, 3, 3, 3, 7, 7);
        due("single", bench.single(0, 0), 3);
        due("made single", Check.read(bench, 0), "1:0 3:1 7:4");
        due("single again", bench.single(0, 0), 3);
        due("single by parity", bench.single(0, 4), 1);
        due("made single by parity", Check.read(bench, 0), "1:0");
    }

    private static String fronted(int order, int k, long... keys) {
        Bench bench = Check.benchOf(keys);
        bench.front(0, order, k);
        return Check.read(bench, 0);
    }

    private static void bringsToFront() {
        due("front of 2", fronted(0, 2, 5, 3, 9, 4), "3:1 4:3 5:0 9:2");
        due("front of 1, the greater first", fronted(1, 1, 5, 3, 9, 4), "9:2 5:0 3:1 4:3");
        due("front of 3 by parity", fronted(4, 3, 5, 2, 9, 4, 3), "2:1 4:3 5:0 9:2 3:4");
        Bench bench = Check.benchOfEntries(8, 40, 7, 1000, 6, -5);
        bench.front(0, 0, 2);
        due("front with other tags", Check.read(bench, 0), "6:-5 7:1000 8:40");
    }
}

/** Promises 1 to 10 and 22 with ordinary inputs: rows are filled, changed and read. */
public final class RowsTest {
    private static final Check CHECK = new Check("RowsTest");

    public static void main(String[] args) {
        CHECK.test("1 new object", () -> {
            due("rows", Check.readAll(new Bench()), " /  /  /  / true");
            due("NONE", OrderBench.NONE, -1);
        });
        CHECK.test("2 add", RowsTest::adds);
        CHECK.test("3 fill", RowsTest::fillsByKinds);
        CHECK.test("4 cut", RowsTest::cuts);
        CHECK.test("5 swap", RowsTest::swaps);
        CHECK.test("6 number", RowsTest::numbers);
        CHECK.test("7 copy", RowsTest::copies);
        CHECK.test("8 size, 9 key, 10 tag", RowsTest::reads);
        CHECK.test("22 mark", RowsTest::marks);
        CHECK.end();
    }

    private static void due(String what, Object got, Object want) {
        CHECK.due(what, got, want);
    }

    private static void adds() {
        Bench bench = new Bench();
        due("first add", bench.add(3, 12, 5), 1);
        due("second add", bench.add(3, -40, 6), 2);
        due("add to another row", bench.add(0, -7, -9), 1);
        due("rows", Check.readAll(bench), "-7:-9 /  /  / 12:5 -40:6 / true");
    }

    private static String filled(int n, int kind, long first, int step) {
        Bench bench = new Bench();
        bench.fill(1, n, kind, first, step);
        return Check.readKeys(bench, 1);
    }

    private static void fillsByKinds() {
        due("kind 0", filled(4, 0, 10, -3), "10 7 4 1");
        due("kind 1", filled(4, 1, 10, -3), "1 4 7 10");
        due("kind 2, even", filled(6, 2, 5, 2), "5 7 9 5 7 9");
        due("kind 2, odd", filled(7, 2, 5, 2), "5 7 9 5 7 9 11");
        due("kind 3, small", filled(4, 3, 5, 2), "5 15 25 35");
        due("kind 3, large", filled(3, 3, 1L << 40, 1),
                Check.text((1L << 40) ^ (1L << 11), (1L << 41) ^ (1L << 12), (3L << 40) ^ (3L << 11)));
        due("kind 4", filled(5, 4, 5, 2), "5 7 1 3 5");
        due("kind 5", filled(8, 5, 0, 3), "0 3 6 12 9 15 21 18");
    }

    private static void cuts() {
        Bench bench = Check.benchOf(3, 1, 2);
        bench.cut(0, 2);
        due("row", Check.read(bench, 0), "3:0 1:1");
    }

    private static void swaps() {
        Bench bench = Check.benchOf(3, 1, 2, 8);
        bench.swap(0, 1, 2);
        due("row", Check.read(bench, 0), "3:0 2:2 1:1 8:3");
    }

    private static void numbers() {
        Bench bench = Check.benchOfEntries(5, 9, 4, -9);
        bench.add(1, 4, 77);
        bench.number(0);
        due("row", Check.read(bench, 0), "5:0 4:1");
        due("another row", Check.read(bench, 1), "4:77");
    }

    private static void copies() {
        Bench bench = Check.benchOf(3, 1, 2);
        Check.put(bench, 1, 9, 9, 9, 9, 9);
        bench.copy(0, 1);
        due("rows", Check.readAll(bench), "3:0 1:1 2:2 / 3:0 1:1 2:2 /  /  / true");
    }

    private static void reads() {
        Bench bench = Check.benchOfEntries(3, 30, 1, 10, 2, 20);
        due("size(0)", bench.size(0), 3);
        due("key(0, 1)", bench.key(0, 1), 1L);
        due("tag(0, 1)", bench.tag(0, 1), 10);
    }

    private static void marks() {
        Bench bench = Check.benchOfEntries(5, 2);
        due("mark of one", bench.mark(0), 31 * 7L + 5 + 34);
        bench.add(0, -100, -3);
        due("mark of two", bench.mark(0), 31 * 256L - 100 - 51);
    }
}

/** Promises 1 to 10 and 22: rows are filled, changed and read. */
public final class RowsTest {
    private static final Check CHECK = new Check("RowsTest");
    private static final long LEAST = Long.MIN_VALUE;
    private static final long MOST = Long.MAX_VALUE;

    public static void main(String[] args) {
        newObject();
        addsEntries();
        addsUpToTheRoom();
        fillsByKinds();
        fillsAtTheEdges();
        refusesFills();
        cuts();
        swaps();
        numbers();
        copies();
        reads();
        marks();
        CHECK.end();
    }

    private static void due(String what, Object got, Object want) {
        CHECK.due(what, got, want);
    }

    private static void newObject() {
        OrderBench bench = new OrderBench();
        for (int row = 0; row < 4; row++) {
            due("size(" + row + ") of a new object", bench.size(row), 0);
            due("mark(" + row + ") of a new object", bench.mark(row), 7L);
        }
        due("within() of a new object", bench.within(), true);
        due("NONE", OrderBench.NONE, -1);
        bench.add(0, 1, 1);
        due("another object's row", new OrderBench().size(0), 0);
    }

    private static void addsEntries() {
        OrderBench bench = new OrderBench();
        due("first add", bench.add(3, LEAST, Integer.MIN_VALUE), 1);
        due("second add", bench.add(3, MOST, Integer.MAX_VALUE), 2);
        due("add to another row", bench.add(0, -7, -9), 1);
        due("row 3", Check.read(bench, 3), "-9223372036854775808:-2147483648 9223372036854775807:2147483647");
        due("row 0", Check.read(bench, 0), "-7:-9");
        due("row 1", bench.size(1), 0);
        CHECK.place("add to row -1", bench, () -> bench.add(-1, 1, 1));
        CHECK.place("add to row 4", bench, () -> bench.add(4, 1, 1));
        CHECK.place("add to the least row", bench, () -> bench.add(Integer.MIN_VALUE, 1, 1));
    }

    private static void addsUpToTheRoom() {
        OrderBench bench = new OrderBench();
        bench.fill(2, 1023, 0, 0, 1);
        due("the 1024th add", bench.add(2, 5, 6), 1024);
        due("key(2, 1023)", bench.key(2, 1023), 5L);
        due("tag(2, 1023)", bench.tag(2, 1023), 6);
        CHECK.state("the 1025th add", bench, () -> bench.add(2, 7, 8));
        due("add elsewhere", bench.add(1, 7, 8), 1);
        bench.cut(2, 1023);
        due("add behind a cut", bench.add(2, 9, 9), 1024);
    }

    private static String filled(int n, int kind, long first, int step) {
        OrderBench bench = new OrderBench();
        bench.fill(1, n, kind, first, step);
        StringBuilder keys = new StringBuilder();
        for (int i = 0; i < n; i++) {
            due("tag " + i + " of kind " + kind, bench.tag(1, i), i);
            keys.append(i == 0 ? "" : " ").append(bench.key(1, i));
        }
        due("size of kind " + kind, bench.size(1), n);
        return keys.toString();
    }

    private static void fillsByKinds() {
        due("kind 0", filled(4, 0, 10, -3), "10 7 4 1");
        due("kind 1", filled(4, 1, 10, -3), "1 4 7 10");
        due("kind 2, even", filled(6, 2, 5, 2), "5 7 9 5 7 9");
        due("kind 2, odd", filled(5, 2, 5, 2), "5 7 5 7 9");
        due("kind 2, one", filled(1, 2, 5, 2), "5");
        due("kind 3, small", filled(4, 3, 5, 2), "5 15 25 35");
        due("kind 3, large", filled(3, 3, 1L << 40, 1),
                ((1L << 40) ^ (1L << 11)) + " " + ((1L << 41) ^ (1L << 12)) + " " + ((3L << 40) ^ (3L << 11)));
        due("kind 3, below 0", filled(2, 3, -1, 0), (-1L ^ 0x7FFFFFFFFL) + " " + (-1L ^ 0x7FFFFFFFFL));
        due("kind 4", filled(5, 4, 5, 2), "5 7 1 3 5");
        due("kind 4, below 0", filled(3, 4, -3, 1), ((-3L ^ -3L >>> 29) & 7) + " "
                + ((-6L ^ -6L >>> 29) & 7) + " " + ((-9L ^ -9L >>> 29) & 7));
        due("kind 5, step 2", filled(7, 5, 0, 2), "0 2 6 4 10 8 12");
        due("kind 5, a pair at the end", filled(4, 5, 0, 2), "0 2 6 4");
        due("kind 5, no pair left", filled(3, 5, 0, 2), "0 2 4");
        due("kind 5, step 1", filled(5, 5, 0, 1), "0 2 3 4 1");
        due("kind 5, step 0", filled(3, 5, 4, 0), "4 4 4");
        due("kind 5, step -1", filled(3, 5, 4, -1), "4 3 2");
    }

    private static void fillsAtTheEdges() {
        for (int kind = 0; kind < 6; kind++) {
            due("nothing of kind " + kind, filled(0, kind, 3, 3), "");
        }
        due("wrapping up", filled(3, 0, MOST, 1), MOST + " " + LEAST + " " + (LEAST + 1));
        due("wrapping down", filled(2, 1, LEAST, -1), MOST + " " + LEAST);
        due("steps as longs", filled(3, 0, 0, Integer.MAX_VALUE), "0 2147483647 4294967294");
        due("steps as longs, kind 3", filled(4, 3, 1, Integer.MAX_VALUE),
                "1 " + (2147483648L ^ 4) + " " + (4294967295L ^ 7) + " " + (6442450942L ^ 11));
        due("steps below 0, kind 2", filled(4, 2, 0, Integer.MIN_VALUE), "0 -2147483648 0 -2147483648");
        due("kind 5, the greatest step", filled(3, 5, 0, Integer.MAX_VALUE), "0 2147483647 4294967294");
        due("kind 5, the least step", filled(2, 5, 0, Integer.MIN_VALUE), "0 -2147483648");
        OrderBench bench = new OrderBench();
        bench.fill(0, 1024, 0, 0, 1);
        due("a full row", bench.size(0) + " " + bench.key(0, 1023) + " " + bench.tag(0, 1023), "1024 1023 1023");
        bench.fill(0, 1024, 5, 0, 1022);
        due("kind 5, the last pair", bench.key(0, 1022) + " " + bench.key(0, 1023), "1045506 1044484");
        bench.fill(0, 2, 0, 8, 1);
        due("a row that was longer", Check.read(bench, 0), "8:0 9:1");
    }

    private static void refusesFills() {
        OrderBench bench = Check.benchOf(3, 1);
        CHECK.argument("fill with -1", bench, () -> bench.fill(0, -1, 0, 0, 1));
        CHECK.argument("fill with 1025", bench, () -> bench.fill(0, 1025, 0, 0, 1));
        CHECK.argument("fill of kind -1", bench, () -> bench.fill(0, 1, -1, 0, 1));
        CHECK.argument("fill of kind 6", bench, () -> bench.fill(0, 1, 6, 0, 1));
        CHECK.place("fill of row 4", bench, () -> bench.fill(4, 1, 0, 0, 1));
        CHECK.place("fill of row -1, all wrong", bench, () -> bench.fill(-1, -1, 9, 0, 1));
    }

    private static void cuts() {
        OrderBench bench = Check.benchOf(3, 1, 2);
        bench.cut(0, 3);
        due("cut behind all", Check.read(bench, 0), "3:0 1:1 2:2");
        bench.cut(0, 1);
        due("cut behind one", Check.read(bench, 0), "3:0");
        CHECK.argument("cut behind more", bench, () -> bench.cut(0, 2));
        CHECK.argument("cut below 0", bench, () -> bench.cut(0, -1));
        CHECK.place("cut of row 4", bench, () -> bench.cut(4, 0));
        CHECK.place("cut of row -1, below 0", bench, () -> bench.cut(-1, -1));
        CHECK.place("an entry behind the cut", bench, () -> bench.key(0, 1));
        bench.cut(0, 0);
        due("cut behind none", bench.size(0), 0);
        CHECK.argument("cut of an empty row", bench, () -> bench.cut(0, 1));
    }

    private static void swaps() {
        OrderBench bench = Check.benchOf(3, 1, 2);
        bench.swap(0, 0, 2);
        due("swap", Check.read(bench, 0), "2:2 1:1 3:0");
        bench.swap(0, 1, 1);
        due("swap with itself", Check.read(bench, 0), "2:2 1:1 3:0");
        CHECK.place("swap with 3", bench, () -> bench.swap(0, 0, 3));
        CHECK.place("swap of 3", bench, () -> bench.swap(0, 3, 0));
        CHECK.place("swap of -1", bench, () -> bench.swap(0, -1, 0));
        CHECK.place("swap with -1", bench, () -> bench.swap(0, 0, -1));
        CHECK.place("swap in row 4", bench, () -> bench.swap(4, 0, 0));
        CHECK.place("swap in an empty row", bench, () -> bench.swap(1, 0, 0));
    }

    private static void numbers() {
        OrderBench bench = new OrderBench();
        bench.add(0, 5, 9);
        bench.add(0, 4, -9);
        bench.add(1, 4, 77);
        bench.number(0);
        due("number", Check.read(bench, 0), "5:0 4:1");
        due("number of another row", Check.read(bench, 1), "4:77");
        bench.number(2);
        due("number of an empty row", bench.size(2), 0);
        CHECK.place("number of row 4", bench, () -> bench.number(4));
        CHECK.place("number of row -1", bench, () -> bench.number(-1));
    }

    private static void copies() {
        OrderBench bench = Check.benchOf(3, 1, 2);
        Check.put(bench, 1, 9, 9, 9, 9, 9);
        bench.copy(0, 1);
        due("copy", Check.read(bench, 1), "3:0 1:1 2:2");
        bench.add(1, 8, 8);
        bench.swap(1, 0, 1);
        due("what was copied stays", Check.read(bench, 0), "3:0 1:1 2:2");
        bench.copy(0, 0);
        due("copy to itself", Check.read(bench, 0), "3:0 1:1 2:2");
        bench.copy(2, 0);
        due("copy of an empty row", bench.size(0), 0);
        CHECK.place("copy from 4", bench, () -> bench.copy(4, 0));
        CHECK.place("copy to 4", bench, () -> bench.copy(1, 4));
        CHECK.place("copy from -1", bench, () -> bench.copy(-1, 0));
        CHECK.place("copy to -1", bench, () -> bench.copy(1, -1));
    }

    private static void reads() {
        OrderBench bench = Check.benchOf(3, 1);
        due("key(0, 1)", bench.key(0, 1), 1L);
        due("tag(0, 1)", bench.tag(0, 1), 1);
        for (int row : new int[] {-1, 4, Integer.MAX_VALUE}) {
            CHECK.place("size(" + row + ")", bench, () -> bench.size(row));
            CHECK.place("key(" + row + ", 0)", bench, () -> bench.key(row, 0));
            CHECK.place("tag(" + row + ", 0)", bench, () -> bench.tag(row, 0));
            CHECK.place("mark(" + row + ")", bench, () -> bench.mark(row));
        }
        for (int i : new int[] {-1, 2, 1024, Integer.MIN_VALUE}) {
            CHECK.place("key(0, " + i + ")", bench, () -> bench.key(0, i));
            CHECK.place("tag(0, " + i + ")", bench, () -> bench.tag(0, i));
        }
        CHECK.place("key(1, 0)", bench, () -> bench.key(1, 0));
        CHECK.place("tag(1, 0)", bench, () -> bench.tag(1, 0));
    }

    private static void marks() {
        OrderBench bench = new OrderBench();
        bench.add(0, 5, 2);
        due("mark of one", bench.mark(0), 31 * 7L + 5 + 34);
        bench.add(0, -100, -3);
        due("mark of two", bench.mark(0), 31 * 256L - 100 - 51);
        bench.add(1, MOST, Integer.MAX_VALUE);
        due("mark that wraps", bench.mark(1), 217 + MOST + 17 * 2147483647L);
        bench.add(2, 0, Integer.MIN_VALUE);
        due("mark with the least tag", bench.mark(2), 217 - 17 * 2147483648L);
    }
}

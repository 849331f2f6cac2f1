/** Promises 13 to 18 with ordinary inputs: what is told of rows that stay as they are. */
public final class TellTest {
    private static final Check CHECK = new Check("TellTest");

    public static void main(String[] args) {
        CHECK.test("13 sorted", TellTest::sorted);
        CHECK.test("14 runs", TellTest::runs);
        CHECK.test("15 inversions", TellTest::inversions);
        CHECK.test("16 ranked", TellTest::ranked);
        CHECK.test("17 climb", TellTest::climb);
        CHECK.test("18 find", TellTest::find);
        CHECK.test("13 to 18, rows stay", TellTest::rowsStay);
        CHECK.end();
    }

    private static void due(String what, Object got, Object want) {
        CHECK.due(what, got, want);
    }

    private static void sortedDue(boolean want, int order, long... keys) {
        due("sorted by order " + order, Check.benchOf(keys).sorted(0, order), want);
    }

    private static void sorted() {
        sortedDue(true, 0, -1, 0, 0, 1);
        sortedDue(false, 0, -1, 1, 0);
        sortedDue(true, 1, 1, 0, 0, -1);
        sortedDue(false, 1, 0, 1);
        sortedDue(true, 2, 0, 1, -1);
        sortedDue(false, 2, -1, 0);
        sortedDue(true, 3, 0, 4, 8, 3);
        sortedDue(false, 3, 4, 2);
        sortedDue(true, 4, 8, 2, 7, 1);
        sortedDue(false, 4, 1, 2);
        sortedDue(true, 5, 0x300, 0x201, 0x101, -1);
        sortedDue(false, 5, -1, 0);
        sortedDue(true, 6, 1, -2, 2, -9);
        sortedDue(false, 6, 2, -2);
        sortedDue(true, 7, 4, 2, 1, 3);
        sortedDue(false, 7, 1, 2);
    }

    private static void runsDue(int want, int order, long... keys) {
        due("runs by order " + order, Check.benchOf(keys).runs(0, order), want);
    }

    private static void runs() {
        runsDue(1, 0, 3, 2, 1);
        runsDue(1, 0, 1, 2, 3);
        runsDue(2, 0, 2, 1, 1, 2, 3);
        runsDue(2, 0, 3, 2, 1, 2, 3);
        runsDue(3, 0, 1, 2, 1, 0, 5);
        runsDue(3, 0, 2, 1, 2, 1, 2);
        runsDue(1, 1, 3, 2, 2, 1);
        runsDue(1, 4, 2, 4, 3, 1);
        runsDue(2, 4, 3, 2, 4);
    }

    private static void inversionsDue(int want, int order, long... keys) {
        due("inversions by order " + order, Check.benchOf(keys).inversions(0, order), want);
    }

    private static void inversions() {
        inversionsDue(3, 0, 3, 2, 1);
        inversionsDue(5, 0, 4, 1, 5, 2, 3);
        inversionsDue(5, 1, 4, 1, 5, 2, 3);
        inversionsDue(4, 4, 1, 3, 2, 4);
        inversionsDue(1, 2, -1, 1);
    }

    private static void ranked() {
        Bench bench = Check.benchOfEntries(5, 40, 2, 30, 3, 20, 4, 10);
        int[] byNumber = {30, 20, 10, 40};
        int[] byParity = {30, 10, 40, 20};
        for (int k = 0; k < 4; k++) {
            due("ranked(0, 0, " + k + ")", bench.ranked(0, 0, k), byNumber[k]);
            due("ranked(0, 4, " + k + ")", bench.ranked(0, 4, k), byParity[k]);
        }
    }

    private static void climbDue(int want, int order, long... keys) {
        due("climb by order " + order, Check.benchOf(keys).climb(0, order), want);
    }

    private static void climb() {
        climbDue(3, 0, 5, 1, 4, 2, 3);
        climbDue(4, 0, 10, 1, 20, 2, 30, 3, 4);
        climbDue(3, 1, 3, 9, 2, 1);
        climbDue(2, 4, 3, 2, 4, 6, 5, 7);
        climbDue(3, 5, 0x201, 0x101, 2, 0x102, 3);
    }

    private static void find() {
        Bench bench = Check.benchOf(1, 3, 3, 3, 7);
        long[] keys = {0, 1, 2, 3, 4, 7, 8};
        int[] before = {0, 0, 1, 1, 4, 4, 5};
        int[] withAlike = {0, 1, 1, 4, 4, 5, 5};
        for (int i = 0; i < keys.length; i++) {
            due("find " + keys[i], bench.find(0, 0, keys[i], false), before[i]);
            due("find " + keys[i] + " and ALIKE ones", bench.find(0, 0, keys[i], true), withAlike[i]);
        }
        due("find an even one by parity", bench.find(0, 4, 2, true), 0);
        due("find an odd one by parity", bench.find(0, 4, 9, false), 0);
        due("find odd ones by parity", bench.find(0, 4, 9, true), 5);
    }

    private static void rowsStay() {
        Bench bench = Check.benchOf(9, 4, 4, 1, 7, -3, 0);
        String before = Check.readAll(bench);
        for (int order = 0; order < 8; order++) {
            bench.sorted(0, order);
            bench.runs(0, order);
            bench.inversions(0, order);
            bench.ranked(0, order, 3);
            bench.climb(0, order);
            due("rows behind what was told by order " + order, Check.readAll(bench), before);
        }
        bench.sort(0, 0, 0);
        before = Check.readAll(bench);
        bench.find(0, 0, 4, true);
        due("rows behind find", Check.readAll(bench), before);
    }
}

/** Promises 13 to 18: what is told of rows that stay as they are. */
public final class TellTest {
    private static final Check CHECK = new Check("TellTest");

    interface Teller {
        int tell(OrderBench bench, int row, int order);
    }

    public static void main(String[] args) {
        tellsSorted();
        tellsRuns();
        tellsInversions();
        tellsRanked();
        tellsClimb();
        finds();
        rowsStay();
        CHECK.end();
    }

    private static void due(String what, Object got, Object want) {
        CHECK.due(what, got, want);
    }

    private static void sortedDue(boolean want, int order, long... keys) {
        due("sorted by order " + order, Check.benchOf(keys).sorted(0, order), want);
    }

    private static void tellsSorted() {
        for (int order = 0; order < 8; order++) {
            sortedDue(true, order);
            sortedDue(true, order, -5);
            sortedDue(true, order, 5, 5, 5);
        }
        sortedDue(true, 0, -1, 0, 0, 1);
        sortedDue(false, 0, -1, 1, 0);
        sortedDue(true, 1, 1, 0, 0, -1);
        sortedDue(false, 1, 0, 1);
        sortedDue(true, 2, 0, 1, -1);
        sortedDue(false, 2, -1, 0);
        sortedDue(true, 3, 0, Long.MIN_VALUE, 4, 3);
        sortedDue(false, 3, 4, Long.MIN_VALUE);
        sortedDue(true, 4, 8, 2, 7, 1);
        sortedDue(false, 4, 1, 2);
        sortedDue(true, 5, 0x300, 0x201, 0x101, -1);
        sortedDue(false, 5, -1, 0);
        sortedDue(true, 6, 1, -2, 2, Long.MAX_VALUE, Long.MIN_VALUE);
        sortedDue(false, 6, 2, -2);
        sortedDue(true, 7, Long.MIN_VALUE, 2, 1, 3);
        sortedDue(false, 7, 1, 2);
        OrderBench bench = Check.benchOf(2, 1);
        Teller sorted = (b, row, order) -> b.sorted(row, order) ? 1 : 0;
        refuses("sorted", bench, sorted);
        refusesWhenEmpty("sorted", sorted);
    }

    private static void refuses(String name, OrderBench bench, Teller teller) {
        CHECK.place(name + " of row 4", bench, () -> teller.tell(bench, 4, 0));
        CHECK.place(name + " of row -1, no such order", bench, () -> teller.tell(bench, -1, 8));
        CHECK.argument(name + " by order 8", bench, () -> teller.tell(bench, 0, 8));
        CHECK.argument(name + " by order -1", bench, () -> teller.tell(bench, 0, -1));
    }

    private static void refusesWhenEmpty(String name, Teller teller) {
        OrderBench bench = new OrderBench();
        CHECK.argument(name + " of an empty row by order 8", bench, () -> teller.tell(bench, 0, 8));
    }

    private static void runsDue(int want, int order, long... keys) {
        due("runs by order " + order, Check.benchOf(keys).runs(0, order), want);
    }

    private static void tellsRuns() {
        runsDue(0, 0);
        runsDue(1, 0, 4);
        runsDue(1, 0, 4, 4, 4);
        runsDue(1, 0, 3, 2, 1);
        runsDue(1, 0, 1, 2, 3);
        runsDue(2, 0, 1, 2, 1);
        runsDue(2, 0, 2, 1, 1);
        runsDue(2, 0, 2, 1, 1, 2, 3);
        runsDue(2, 0, 3, 2, 1, 2, 3);
        runsDue(3, 0, 1, 2, 1, 0, 5);
        runsDue(3, 0, 2, 1, 2, 1, 2);
        runsDue(1, 1, 3, 2, 2, 1);
        runsDue(1, 4, 2, 4, 3, 1);
        runsDue(2, 4, 3, 2, 4);
        refuses("runs", Check.benchOf(2, 1), OrderBench::runs);
        refusesWhenEmpty("runs", OrderBench::runs);
    }

    private static void inversionsDue(int want, int order, long... keys) {
        due("inversions by order " + order, Check.benchOf(keys).inversions(0, order), want);
    }

    private static void tellsInversions() {
        inversionsDue(0, 0);
        inversionsDue(0, 0, 1);
        inversionsDue(0, 0, 1, 1, 2);
        inversionsDue(3, 0, 3, 2, 1);
        inversionsDue(2, 0, 3, 1, 1, 3);
        inversionsDue(4, 4, 1, 3, 2, 4);
        inversionsDue(1, 2, -1, 1);
        OrderBench bench = new OrderBench();
        bench.fill(0, 1024, 1, 0, 1);
        due("most inversions", bench.inversions(0, 0), 1024 * 1023 / 2);
        due("the other way round", bench.inversions(0, 1), 0);
        refuses("inversions", Check.benchOf(2, 1), OrderBench::inversions);
        refusesWhenEmpty("inversions", OrderBench::inversions);
    }

    private static void tellsRanked() {
        OrderBench bench = new OrderBench();
        bench.add(0, 5, 40);
        bench.add(0, 2, 30);
        bench.add(0, 3, 20);
        bench.add(0, 4, 10);
        int[] byNumber = {30, 20, 10, 40};
        int[] byParity = {30, 10, 40, 20};
        for (int k = 0; k < 4; k++) {
            due("ranked(0, 0, " + k + ")", bench.ranked(0, 0, k), byNumber[k]);
            due("ranked(0, 4, " + k + ")", bench.ranked(0, 4, k), byParity[k]);
        }
        CHECK.place("ranked at 4", bench, () -> bench.ranked(0, 0, 4));
        CHECK.place("ranked at -1", bench, () -> bench.ranked(0, 0, -1));
        CHECK.place("ranked at 4, no such order", bench, () -> bench.ranked(0, 8, 4));
        CHECK.place("ranked in an empty row", bench, () -> bench.ranked(1, 0, 0));
        refuses("ranked", bench, (b, row, order) -> b.ranked(row, order, 0));
    }

    private static void climbDue(int want, int order, long... keys) {
        due("climb by order " + order, Check.benchOf(keys).climb(0, order), want);
    }

    private static void tellsClimb() {
        climbDue(0, 0);
        climbDue(1, 0, 5);
        climbDue(1, 0, 5, 5, 5);
        climbDue(1, 0, 5, 4, 3);
        climbDue(3, 0, 5, 1, 4, 2, 3);
        climbDue(4, 0, 10, 1, 20, 2, 30, 3, 4);
        climbDue(3, 1, 3, 9, 2, 1);
        climbDue(2, 4, 3, 2, 4, 6, 5, 7);
        climbDue(3, 5, 0x201, 0x101, 2, 0x102, 3);
        OrderBench bench = new OrderBench();
        bench.fill(0, 1024, 0, 0, 1);
        due("the longest climb", bench.climb(0, 0), 1024);
        refuses("climb", Check.benchOf(2, 1), OrderBench::climb);
        refusesWhenEmpty("climb", OrderBench::climb);
    }

    private static void finds() {
        OrderBench bench = Check.benchOf(1, 3, 3, 3, 7);
        long[] keys = {0, 1, 2, 3, 4, 7, 8};
        int[] before = {0, 0, 1, 1, 4, 4, 5};
        int[] withAlike = {0, 1, 1, 4, 4, 5, 5};
        for (int i = 0; i < keys.length; i++) {
            due("find " + keys[i], bench.find(0, 0, keys[i], false), before[i]);
            due("find " + keys[i] + " and ALIKE ones", bench.find(0, 0, keys[i], true), withAlike[i]);
        }
        due("find by parity", bench.find(0, 4, 2, true), 0);
        due("find by parity", bench.find(0, 4, 9, false), 0);
        due("find by parity", bench.find(0, 4, 9, true), 5);
        due("find in an empty row", bench.find(1, 3, 9, true), 0);
        due("find the least", bench.find(0, 0, Long.MIN_VALUE, true), 0);
        due("find the greatest", bench.find(0, 0, Long.MAX_VALUE, false), 5);
        bench.fill(2, 1024, 0, 0, 2);
        due("find in a full row", bench.find(2, 0, 1023, true), 512);
        CHECK.state("find in another order", bench, () -> bench.find(0, 1, 3, false));
        OrderBench turned = Check.benchOf(1, 3, 7, 3);
        CHECK.state("find with the last one out of order", turned, () -> turned.find(0, 0, 1, true));
        CHECK.argument("find by order 8, not in order", bench, () -> bench.find(0, 8, 3, true));
        Teller find = (b, row, order) -> b.find(row, order, 3, true);
        refuses("find", bench, find);
        refusesWhenEmpty("find", find);
    }

    private static void rowsStay() {
        OrderBench bench = Check.benchOf(9, 4, 4, 1, 7, -3, 0);
        String before = Check.read(bench, 0);
        for (int order = 0; order < 8; order++) {
            bench.sorted(0, order);
            bench.runs(0, order);
            bench.inversions(0, order);
            bench.ranked(0, order, 3);
            bench.climb(0, order);
            due("the row behind what was told by order " + order, Check.read(bench, 0), before);
        }
        bench.sort(0, 0, 0);
        before = Check.read(bench, 0);
        bench.find(0, 0, 4, true);
        due("the row behind find", Check.read(bench, 0), before);
    }
}

/** The edges that the document names for promises 13 to 18: what is told of rows that stay as they are. */
public final class EdgeTellTest {
    private static final Check CHECK = new Check("EdgeTellTest");
    private static final long LEAST = Check.LEAST;
    private static final long MOST = Check.MOST;
    private static final int ROOM = Check.ROOM;
    private static final int LEAST_INT = Integer.MIN_VALUE;
    private static final int MOST_INT = Integer.MAX_VALUE;
    private static final int ORDERS = 8;

    interface Teller {
        Object tell(Bench bench, int row, int order);
    }

    public static void main(String[] args) {
        sorted();
        runs();
        inversions();
        ranked();
        rankedRefusals();
        climb();
        find();
        findRefusals();
        CHECK.end();
    }

    private static void toldDue(String test, Teller teller, Object want, int order, long... keys) {
        CHECK.test(test, () -> {
            Bench bench = Check.benchOf(keys);
            String before = Check.readAll(bench);
            CHECK.due("by order " + order, teller.tell(bench, 0, order), want);
            CHECK.due("what stands behind it", Check.readAll(bench), before);
        });
    }

    private static void inEveryOrderDue(String test, Teller teller, Object want, long... keys) {
        for (int order = 0; order < ORDERS; order++) {
            toldDue(test + ", order " + order, teller, want, order, keys);
        }
    }

    private static void fullDue(String test, Teller teller, Object want, int order, int kind, long first, int step) {
        CHECK.test(test, () -> {
            Bench bench = new Bench();
            bench.fill(3, ROOM, kind, first, step);
            String before = Check.readAll(bench);
            CHECK.due("by order " + order, teller.tell(bench, 3, order), want);
            CHECK.due("what stands behind it", Check.readAll(bench), before);
        });
    }

    private static void refusals(String call, Teller teller) {
        CHECK.refusesRows(call, (bench, row) -> teller.tell(bench, row, 0));
        CHECK.refusesOrders(call, (bench, order) -> teller.tell(bench, 0, order));
        CHECK.refused(call + ": no such row, and no order -1", Check.PLACE, bench -> teller.tell(bench, -1, -1));
        CHECK.refused(call + ": no such row, and no order 8", Check.PLACE, bench -> teller.tell(bench, 4, 8));
    }

    private static void refusalsOfEmptyRows(String call, Teller teller) {
        CHECK.refusesOrders(call + " of an empty row", (bench, order) -> teller.tell(bench, 2, order));
    }

    private static void sorted() {
        Teller sorted = (bench, row, order) -> bench.sorted(row, order);
        inEveryOrderDue("13 sorted: an empty row", sorted, true);
        inEveryOrderDue("13 sorted: one entry", sorted, true, LEAST);
        inEveryOrderDue("13 sorted: ALIKE ones", sorted, true, -7, -7, -7);
        toldDue("13 sorted: the second entry before the first one", sorted, false, 0, 2, 1, 3);
        toldDue("13 sorted: only the last entry before another one", sorted, false, 0, 1, 2, 3, 2);
        toldDue("13 sorted: the least and the greatest long", sorted, true, 0, LEAST, MOST);
        toldDue("13 sorted: the greatest and the least long", sorted, false, 0, MOST, LEAST);
        fullDue("13 sorted: a full row in order", sorted, true, 0, 0, 0, 1);
        fullDue("13 sorted: a full row of one key", sorted, true, 7, 0, 5, 0);
        fullDue("13 sorted: a full row with its last two changed", sorted, false, 0, 5, 0, ROOM - 2);
        CHECK.test("13 sorted: ALIKE ones whose tags fall", () ->
                CHECK.due("sorted", Check.benchOfEntries(4, MOST_INT, 4, 0, 4, LEAST_INT).sorted(0, 0), true));
        refusals("13 sorted", sorted);
        refusalsOfEmptyRows("13 sorted", sorted);
    }

    private static void runs() {
        Teller runs = (bench, row, order) -> bench.runs(row, order);
        inEveryOrderDue("14 runs: an empty row", runs, 0);
        inEveryOrderDue("14 runs: one entry", runs, 1, LEAST);
        inEveryOrderDue("14 runs: two ALIKE ones", runs, 1, 9, 9);
        toldDue("14 runs: two entries that rise", runs, 1, 0, LEAST, MOST);
        toldDue("14 runs: two entries that fall", runs, 1, 0, MOST, LEAST);
        toldDue("14 runs: a last entry alone behind a rise", runs, 2, 0, 1, 2, 1);
        toldDue("14 runs: a last entry alone behind a fall", runs, 2, 0, 2, 1, 2);
        toldDue("14 runs: a fall ends before an ALIKE one", runs, 2, 0, 3, 2, 2);
        toldDue("14 runs: a fall that ends so, and a run of what is left", runs, 2, 0, 3, 2, 2, 2, 5);
        toldDue("14 runs: a rise goes on with an ALIKE one", runs, 1, 0, 2, 2, 3, 3);
        toldDue("14 runs: ALIKE ones and a fall behind them", runs, 2, 0, 2, 2, 1);
        toldDue("14 runs: a fall takes all that come before the one before them", runs, 1, 0, 4, 3, 2, 1);
        toldDue("14 runs: a run begins with what ended the one before", runs, 2, 0, 1, 5, 4, 3);
        fullDue("14 runs: a full row that rises", runs, 1, 0, 0, 0, 1);
        fullDue("14 runs: a full row that falls", runs, 1, 0, 1, 0, 1);
        fullDue("14 runs: a full row of one key", runs, 1, 0, 0, 3, 0);
        fullDue("14 runs: a full row of falling pairs", runs, ROOM / 2, 4, 1, 0, 1);
        CHECK.test("14 runs: 511 falling pairs and a last entry alone", () -> {
            Bench bench = new Bench();
            bench.fill(0, ROOM - 1, 1, 1, 1);
            CHECK.due("runs", bench.runs(0, 4), ROOM / 2);
        });
        CHECK.test("14 runs: a last entry alone in a full row", () -> {
            Bench bench = new Bench();
            bench.fill(0, ROOM, 0, 0, 1);
            bench.swap(0, 0, ROOM - 1);
            CHECK.due("a fall, a rise, and the last one", bench.runs(0, 0), 3);
        });
        refusals("14 runs", runs);
        refusalsOfEmptyRows("14 runs", runs);
    }

    private static void inversions() {
        Teller inversions = (bench, row, order) -> bench.inversions(row, order);
        inEveryOrderDue("15 inversions: an empty row", inversions, 0);
        inEveryOrderDue("15 inversions: one entry", inversions, 0, LEAST);
        inEveryOrderDue("15 inversions: ALIKE ones", inversions, 0, 6, 6, 6);
        toldDue("15 inversions: the least long behind the greatest", inversions, 1, 0, MOST, LEAST);
        toldDue("15 inversions: the greatest long behind the least", inversions, 0, 0, LEAST, MOST);
        toldDue("15 inversions: the first entry behind all", inversions, 3, 0, 9, 1, 2, 3);
        toldDue("15 inversions: ALIKE ones are none", inversions, 2, 0, 3, 1, 1, 3);
        fullDue("15 inversions: all pairs of a full row", inversions, ROOM * (ROOM - 1) / 2, 0, 1, 0, 1);
        fullDue("15 inversions: none of a full row", inversions, 0, 1, 1, 0, 1);
        fullDue("15 inversions: a full row of one key", inversions, 0, 0, 0, 3, 0);
        fullDue("15 inversions: a full row by turns even and odd", inversions, 511 * 512 / 2, 4, 0, 0, 1);
        refusals("15 inversions", inversions);
        refusalsOfEmptyRows("15 inversions", inversions);
    }

    private static Teller rankedAt(int k) {
        return (bench, row, order) -> bench.ranked(row, order, k);
    }

    private static void ranked() {
        inEveryOrderDue("16 ranked: place 0 of one entry", rankedAt(0), 0, LEAST);
        inEveryOrderDue("16 ranked: the first of ALIKE ones", rankedAt(0), 0, 6, 6, 6);
        inEveryOrderDue("16 ranked: the last of ALIKE ones", rankedAt(2), 2, 6, 6, 6);
        toldDue("16 ranked: the first place", rankedAt(0), 2, 0, 5, 7, LEAST, MOST);
        toldDue("16 ranked: the last place", rankedAt(3), 3, 0, 5, 7, LEAST, MOST);
        toldDue("16 ranked: the first place, the other way round", rankedAt(0), 3, 1, 5, 7, LEAST, MOST);
        fullDue("16 ranked: the first place of a full row", rankedAt(0), ROOM - 1, 0, 1, 0, 1);
        fullDue("16 ranked: the last place of a full row", rankedAt(ROOM - 1), 0, 0, 1, 0, 1);
        fullDue("16 ranked: a full row of one key", rankedAt(ROOM - 1), ROOM - 1, 0, 0, 3, 0);
        CHECK.test("16 ranked: ALIKE ones stay as they stood, whatever their tags are", () -> {
            Bench bench = Check.benchOfEntries(4, MOST_INT, 2, 0, 8, LEAST_INT, 1, 7);
            CHECK.due("place 0", bench.ranked(0, 4, 0), MOST_INT);
            CHECK.due("place 1", bench.ranked(0, 4, 1), 0);
            CHECK.due("place 2", bench.ranked(0, 4, 2), LEAST_INT);
            CHECK.due("place 3", bench.ranked(0, 4, 3), 7);
        });
    }

    private static void rankedRefusals() {
        refusals("16 ranked", rankedAt(0));
        for (int k : new int[] {-1, 4, LEAST_INT, MOST_INT}) {
            CHECK.refused("16 ranked: place " + k + " of 4", Check.PLACE, bench -> bench.ranked(0, 0, k));
            CHECK.refused("16 ranked: place " + k + " of 4, and no order 8", Check.PLACE, bench -> bench.ranked(0, 8, k));
            CHECK.refused("16 ranked: place " + k + " of 4, and no order -1", Check.PLACE, bench -> bench.ranked(0, -1, k));
        }
        CHECK.refused("16 ranked: an empty row", Check.PLACE, bench -> bench.ranked(2, 0, 0));
        CHECK.refused("16 ranked: an empty row, and no such order", Check.PLACE, bench -> bench.ranked(2, 8, 0));
        CHECK.refused("16 ranked: place 1,024 of a full row", Check.PLACE, bench -> bench.ranked(3, 0, ROOM));
    }

    private static void climb() {
        Teller climb = (bench, row, order) -> bench.climb(row, order);
        inEveryOrderDue("17 climb: a row without any", climb, 0);
        inEveryOrderDue("17 climb: one entry", climb, 1, LEAST);
        inEveryOrderDue("17 climb: ALIKE ones do not", climb, 1, 6, 6, 6);
        toldDue("17 climb: the least and the greatest long", climb, 2, 0, LEAST, MOST);
        toldDue("17 climb: the greatest and the least long", climb, 1, 0, MOST, LEAST);
        toldDue("17 climb: from the first to the last", climb, 3, 0, 1, 9, 8, 2, 7, 3);
        toldDue("17 climb: ALIKE ones among others", climb, 2, 4, 2, 4, 1, 3, 6);
        fullDue("17 climb: all of a full row", climb, ROOM, 0, 0, 0, 1);
        fullDue("17 climb: one of a full row", climb, 1, 0, 1, 0, 1);
        fullDue("17 climb: a full row of one key", climb, 1, 0, 0, 3, 0);
        fullDue("17 climb: two climbs one behind the other", climb, ROOM / 2, 0, 2, 0, 1);
        refusals("17 climb", climb);
        refusalsOfEmptyRows("17 climb", climb);
    }

    private static Teller findOf(long key, boolean alike) {
        return (bench, row, order) -> bench.find(row, order, key, alike);
    }

    private static void foundDue(String test, int before, int withAlike, int order, long key, long... keys) {
        toldDue("18 find: " + test + ", before it", findOf(key, false), before, order, keys);
        toldDue("18 find: " + test + ", ALIKE ones too", findOf(key, true), withAlike, order, keys);
    }

    private static void find() {
        for (int order = 0; order < ORDERS; order++) {
            foundDue("an empty row, order " + order, 0, 0, order, 5);
            foundDue("the only entry, order " + order, 0, 1, order, 5, 5);
            foundDue("the least long, order " + order, 0, 2, order, LEAST, LEAST, LEAST);
        }
        foundDue("a key before all", 0, 0, 0, LEAST, -1, 3, 3, 3, 7);
        foundDue("a key behind all", 5, 5, 0, MOST, -1, 3, 3, 3, 7);
        foundDue("the first key", 0, 1, 0, -1, -1, 3, 3, 3, 7);
        foundDue("the last key", 4, 5, 0, 7, -1, 3, 3, 3, 7);
        foundDue("a key that is there thrice", 1, 4, 0, 3, -1, 3, 3, 3, 7);
        foundDue("a key between two", 4, 4, 0, 4, -1, 3, 3, 3, 7);
        foundDue("the greatest long", 1, 2, 0, MOST, LEAST, MOST);
        foundDue("an ALIKE key that is not there", 1, 3, 5, 0x305, 0x204, 0x105, 0x205, 0x106);
        foundDue("the least long by size", 2, 3, 6, LEAST, 0, MOST, LEAST);
        fullDue("18 find: a key before all of a full row", findOf(-1, true), 0, 0, 0, 0, 1);
        fullDue("18 find: a key behind all of a full row", findOf(ROOM, false), ROOM, 0, 0, 0, 1);
        fullDue("18 find: the last key of a full row", findOf(ROOM - 1, false), ROOM - 1, 0, 0, 0, 1);
        fullDue("18 find: before all that are ALIKE in a full row", findOf(3, false), 0, 0, 0, 3, 0);
        fullDue("18 find: all that are ALIKE in a full row", findOf(3, true), ROOM, 0, 0, 3, 0);
    }

    private static void findRefusals() {
        refusals("18 find", findOf(3, true));
        refusalsOfEmptyRows("18 find", findOf(3, true));
        for (int order = 0; order < ORDERS; order++) {
            int by = order;
            CHECK.refused("18 find: not in order " + order, Check.STATE, bench -> bench.find(1, by, 3, true));
            CHECK.refused("18 find: a full row not in order " + order, Check.STATE, bench -> bench.find(3, by, 3, false));
        }
        CHECK.refused("18 find: in order 0, but not in order 1", Check.STATE, bench -> bench.find(0, 1, 3, false));
        CHECK.test("18 find: only the last entry is out of order", () -> {
            Bench bench = Check.benchOf(1, 3, 7, 3);
            CHECK.due("find", Check.answerOf(() -> bench.find(0, 0, 0, false)), Check.STATE);
            CHECK.due("row", Check.readKeys(bench, 0), "1 3 7 3");
        });
        CHECK.refused("18 find: not in order, and no order 8", Check.ARGUMENT, bench -> bench.find(1, 8, 3, true));
        CHECK.refused("18 find: not in order, and no order -1", Check.ARGUMENT, bench -> bench.find(3, -1, 3, true));
    }
}

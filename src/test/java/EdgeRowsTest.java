/** The edges that the document names for promises 1 to 10 and 22: rows are filled, changed and read. */
public final class EdgeRowsTest {
    private static final Check CHECK = new Check("EdgeRowsTest");
    private static final long LEAST = Check.LEAST;
    private static final long MOST = Check.MOST;
    private static final int ROOM = Check.ROOM;
    private static final int LEAST_INT = Integer.MIN_VALUE;
    private static final int MOST_INT = Integer.MAX_VALUE;

    public static void main(String[] args) {
        newObjects();
        adds();
        fillSizes();
        fillKinds();
        fillKind5();
        fillWraps();
        fillRefusals();
        cuts();
        swaps();
        numbers();
        copies();
        reads();
        marks();
        CHECK.end();
    }

    private static void due(String what, Object got, Object want) {
        CHECK.due(what, got, want);
    }

    private static void newObjects() {
        CHECK.test("1 new object: all rows are empty", () -> {
            Bench bench = new Bench();
            for (int row = 0; row < 4; row++) {
                int at = row;
                due("size(" + row + ")", bench.size(row), 0);
                due("mark(" + row + ")", bench.mark(row), 7L);
                due("key(" + row + ", 0)", Check.answerOf(() -> bench.key(at, 0)), Check.PLACE);
            }
        });
        CHECK.test("1 new object: it has nothing of another one", () -> {
            Bench used = Check.laidBench();
            due("rows", Check.readAll(new Bench()), " /  /  /  / true");
            due("a row of the other one", used.size(3), ROOM);
        });
        CHECK.test("1 new object: two of them, used by turns, have nothing in common", () -> {
            Bench one = Check.benchOf(3, 1, 2);
            Bench other = Check.benchOf(9, 8, 7, 6);
            due("inversions of one", one.inversions(0, 0), 2);
            due("inversions of the other", other.inversions(0, 0), 6);
            one.sort(0, 5, 0);
            due("the other", Check.readAll(other), "9:0 8:1 7:2 6:3 /  /  /  / true");
            other.front(0, 0, 1);
            due("one", Check.readAll(one), "1:1 2:2 3:0 /  /  /  / true");
            due("the other at last", Check.readAll(other), "6:3 9:0 8:1 7:2 /  /  /  / true");
        });
        CHECK.test("1 new object: it serves 512 calls", () -> {
            Bench bench = new Bench();
            for (int call = 1; call <= Bench.MOST_CALLS; call++) {
                due("add, call " + call, bench.add(call % 2, call, call), (call + 1) / 2);
            }
        });
    }

    private static void adds() {
        CHECK.test("2 add: the first entry of an empty row", () -> {
            Bench bench = new Bench();
            due("add", bench.add(2, 8, 9), 1);
            due("rows", Check.readAll(bench), " /  / 8:9 /  / true");
        });
        CHECK.test("2 add: the first and the last row", () -> {
            Bench bench = new Bench();
            due("add to row 0", bench.add(0, 1, 2), 1);
            due("add to row 3", bench.add(3, 3, 4), 1);
            due("rows", Check.readAll(bench), "1:2 /  /  / 3:4 / true");
        });
        CHECK.test("2 add: the least and the greatest key and tag", () -> {
            Bench bench = new Bench();
            bench.add(1, LEAST, LEAST_INT);
            bench.add(1, MOST, MOST_INT);
            due("row", Check.read(bench, 1), LEAST + ":-2147483648 " + MOST + ":2147483647");
        });
        CHECK.test("2 add: the 1,024th entry", () -> {
            Bench bench = new Bench();
            bench.fill(2, ROOM - 1, 0, 0, 1);
            due("add", bench.add(2, 5, 6), ROOM);
            due("its entry", bench.key(2, ROOM - 1) + ":" + bench.tag(2, ROOM - 1), "5:6");
            due("the one before it", bench.key(2, ROOM - 2) + ":" + bench.tag(2, ROOM - 2), "1022:1022");
        });
        CHECK.test("2 add: the 1,025th entry", () -> {
            Bench bench = new Bench();
            bench.fill(2, ROOM - 1, 0, 0, 1);
            bench.add(2, 5, 6);
            String before = Check.readAll(bench);
            due("add", Check.answerOf(() -> bench.add(2, 7, 8)), Check.STATE);
            due("rows", Check.readAll(bench), before);
        });
        CHECK.test("2 add: room again when a full row was cut", () -> {
            Bench bench = Check.laidBench();
            bench.cut(3, ROOM - 1);
            due("add", bench.add(3, 9, -9), ROOM);
            due("its entry", bench.key(3, ROOM - 1) + ":" + bench.tag(3, ROOM - 1), "9:-9");
        });
        CHECK.test("2 add: a full row leaves the others their room", () ->
                due("add", Check.laidBench().add(2, 1, 1), 1));
        CHECK.refused("2 add: a full row", Check.STATE, bench -> bench.add(3, 1, 1));
        CHECK.refusesRows("2 add", (bench, row) -> bench.add(row, 1, 1));
        CHECK.test("2 add: no such row and no room in any", () -> {
            Bench bench = new Bench();
            for (int row = 0; row < 4; row++) {
                bench.fill(row, ROOM, 0, 0, 1);
            }
            due("add to row 4", Check.answerOf(() -> bench.add(4, 1, 1)), Check.PLACE);
        });
    }

    private static String filled(int n, int kind, long first, int step) {
        Bench bench = new Bench();
        bench.fill(1, n, kind, first, step);
        return Check.readKeys(bench, 1);
    }

    private static void filledDue(String test, String want, int n, int kind, long first, int step) {
        CHECK.test("3 fill: " + test, () -> due("keys", filled(n, kind, first, step), want));
    }

    private static void fullDue(int kind, String want, int... places) {
        CHECK.test("3 fill: 1,024 entries of kind " + kind, () -> {
            Bench bench = new Bench();
            bench.fill(0, ROOM, kind, 5, 3);
            StringBuilder keys = new StringBuilder();
            for (int place : places) {
                keys.append(bench.key(0, place)).append(' ');
                due("tag " + place, bench.tag(0, place), place);
            }
            due("size", bench.size(0), ROOM);
            due("keys", keys.toString().trim(), want);
            due("add", Check.answerOf(() -> bench.add(0, 1, 1)), Check.STATE);
        });
    }

    private static void fillSizes() {
        long[] alone = {40, 40, 40, 40, 0, 40};
        for (int kind = 0; kind < 6; kind++) {
            int of = kind;
            filledDue("no entries of kind " + kind, "", 0, kind, 40, 3);
            filledDue("one entry of kind " + kind, "" + alone[kind], 1, kind, 40, 3);
            CHECK.test("3 fill: a full row becomes empty, kind " + kind, () -> {
                Bench bench = Check.laidBench();
                bench.fill(3, 0, of, 40, 3);
                due("size", bench.size(3), 0);
                due("key(3, 0)", Check.answerOf(() -> bench.key(3, 0)), Check.PLACE);
            });
        }
        fullDue(0, "5 8 3071 3074", 0, 1, 1022, 1023);
        fullDue(1, "3074 3071 8 5", 0, 1, 1022, 1023);
        fullDue(2, "5 1535 1538 5 8 1538", 0, 510, 511, 512, 513, 1023);
        fullDue(3, "5 20 15335 15350", 0, 1, 1022, 1023);
        fullDue(4, "5 4 7 6", 0, 1, 1022, 1023);
        fullDue(5, "5 8 11 17 14 3068 3065 3071 3074", 0, 1, 2, 3, 4, 1020, 1021, 1022, 1023);
        CHECK.test("3 fill: a longer row becomes shorter, with new tags", () -> {
            Bench bench = Check.laidBench();
            bench.fill(0, 2, 0, 8, 1);
            due("row", Check.read(bench, 0), "8:0 9:1");
            due("add", bench.add(0, 7, 7), 3);
        });
        CHECK.test("3 fill: other rows stay", () -> {
            Bench bench = Check.laidBench();
            bench.fill(2, ROOM, 0, 8, 1);
            bench.cut(2, 0);
            due("rows", Check.readAll(bench), Check.readAll(Check.laidBench()));
        });
    }

    private static void fillKinds() {
        filledDue("kind 2, n / 2 is cut off to 0", "5", 1, 2, 5, 2);
        filledDue("kind 2, n / 2 is 1", "5 5", 2, 2, 5, 2);
        filledDue("kind 2, n / 2 is cut off to 1", "5 5 7", 3, 2, 5, 2);
        filledDue("kind 2, n / 2 is cut off to 2", "5 7 5 7 9", 5, 2, 5, 2);
        filledDue("kind 3, i * step + 1 is 0", Check.text(6, 0, -6L ^ 0x7FFFFFFFFL), 3, 3, 6, -1);
        filledDue("kind 3, below 0 it is shifted without sign", Check.text(0xFFFFFFF800000000L), 1, 3, -1, 1);
        filledDue("kind 3, bit 29 comes to the lowest one", Check.text(0x20000001L, 0x40000002L), 2, 3, 0x20000000L, 1);
        filledDue("kind 3, bit 28 goes", Check.text(0x10000000L), 1, 3, 0x10000000L, 1);
        filledDue("kind 3, the least long", Check.text(LEAST ^ 0x400000000L), 1, 3, LEAST, 1);
        filledDue("kind 4, behind 7 comes 0", "1 2 3 4 5 6 7 0 1", 9, 4, 1, 1);
        filledDue("kind 4, below 0 from 0 to 7, too", "2", 1, 4, -3, 1);
    }

    private static void fillKind5() {
        filledDue("kind 5, i + 1 is the last place", "0 2 6 4", 4, 5, 0, 2);
        filledDue("kind 5, i + 1 is n", "0 2 4", 3, 5, 0, 2);
        filledDue("kind 5, i is n", "0 3 6", 3, 5, 0, 3);
        filledDue("kind 5, one pair behind the other", "0 2 3 4 1", 5, 5, 0, 1);
        filledDue("kind 5, pairs side by side", "0 2 6 4 10 8 12", 7, 5, 0, 2);
        filledDue("kind 5, two entries are no pair", "0 1", 2, 5, 0, 1);
        filledDue("kind 5, none for step 0", "4 4 4", 3, 5, 4, 0);
        filledDue("kind 5, none for step -1", "4 3 2", 3, 5, 4, -1);
        filledDue("kind 5, none for the least step", Check.text(0, -2147483648L, -4294967296L), 3, 5, 0, LEAST_INT);
        filledDue("kind 5, none for the greatest step", Check.text(0, 2147483647L, 4294967294L), 3, 5, 0, MOST_INT);
        CHECK.test("3 fill: kind 5, the last pair of a full row", () -> {
            Bench bench = new Bench();
            bench.fill(0, ROOM, 5, 0, ROOM - 2);
            due("key(0, 1022)", bench.key(0, 1022), 1023L * 1022);
            due("key(0, 1023)", bench.key(0, 1023), 1022L * 1022);
            due("tags", bench.tag(0, 1022) + " " + bench.tag(0, 1023), "1022 1023");
        });
    }

    private static void fillWraps() {
        filledDue("kind 0 wraps upwards", Check.text(MOST, LEAST, LEAST + 1), 3, 0, MOST, 1);
        filledDue("kind 0 wraps downwards", Check.text(LEAST, MOST, MOST - 1), 3, 0, LEAST, -1);
        filledDue("kind 1 wraps", Check.text(LEAST + 1, LEAST, MOST), 3, 1, MOST, 1);
        filledDue("kind 2 wraps", Check.text(MOST, LEAST, MOST, LEAST, LEAST + 1), 5, 2, MOST, 1);
        filledDue("kind 3 wraps", Check.text(0x7FFFFFFC00000000L, 0xFFFFFFF800000001L, 0x7FFFFFFC00000002L), 3, 3, MOST, 1);
        filledDue("kind 4 wraps", "0 1 2", 3, 4, MOST, 1);
        filledDue("kind 5 wraps", Check.text(MOST, LEAST + 1, LEAST), 3, 5, MOST, 1);
        filledDue("kind 0, the greatest step as a long", Check.text(0, 2147483647L, 4294967294L), 3, 0, 0, MOST_INT);
        filledDue("kind 0, the least step as a long", Check.text(0, -2147483648L, -4294967296L), 3, 0, 0, LEAST_INT);
        filledDue("kind 1, the greatest step as a long", Check.text(4294967294L, 2147483647L, 0), 3, 1, 0, MOST_INT);
        filledDue("kind 2, the least step as a long",
                Check.text(0, -2147483648L, 0, -2147483648L, -4294967296L), 5, 2, 0, LEAST_INT);
        filledDue("kind 3, the greatest step as a long",
                Check.text(1, 2147483648L ^ 4, 4294967295L ^ 7, 6442450942L ^ 11), 4, 3, 1, MOST_INT);
        filledDue("kind 3, the least step as a long", Check.text(1, -2147483647L ^ 0x7FFFFFFFCL), 2, 3, 1, LEAST_INT);
        filledDue("kind 4, the greatest step as a long", "1 4 0 5", 4, 4, 1, MOST_INT);
        CHECK.test("3 fill: the greatest step up to the last place", () -> {
            Bench bench = new Bench();
            bench.fill(0, ROOM, 0, 0, MOST_INT);
            due("key(0, 1023) of kind 0", bench.key(0, 1023), 2196875770881L);
            bench.fill(0, ROOM, 3, 1, MOST_INT);
            due("key(0, 1023) of kind 3", bench.key(0, 1023), 2196875770882L ^ 4091);
        });
    }

    private static void fillRefusals() {
        for (int n : new int[] {-1, ROOM + 1, LEAST_INT, MOST_INT}) {
            CHECK.refused("3 fill: n is " + n, Check.ARGUMENT, bench -> bench.fill(0, n, 0, 1, 1));
        }
        for (int kind : new int[] {-1, 6, LEAST_INT, MOST_INT}) {
            CHECK.refused("3 fill: kind is " + kind, Check.ARGUMENT, bench -> bench.fill(0, 3, kind, 1, 1));
            CHECK.refused("3 fill: kind is " + kind + ", n is 0", Check.ARGUMENT, bench -> bench.fill(0, 0, kind, 1, 1));
        }
        CHECK.refused("3 fill: neither n nor kind is right", Check.ARGUMENT, bench -> bench.fill(0, -1, 6, 1, 1));
        CHECK.refusesRows("3 fill", (bench, row) -> bench.fill(row, 1, 0, 1, 1));
        CHECK.refused("3 fill: no such row, and n too large", Check.PLACE, bench -> bench.fill(4, ROOM + 1, 0, 1, 1));
        CHECK.refused("3 fill: no such row, and n too small", Check.PLACE, bench -> bench.fill(-1, -1, 0, 1, 1));
        CHECK.refused("3 fill: no such row, and no such kind", Check.PLACE, bench -> bench.fill(4, 1, 6, 1, 1));
    }

    private static void cutDue(String test, String want, int row, int n) {
        CHECK.test("4 cut: " + test, () -> {
            Bench bench = Check.laidBench();
            bench.cut(row, n);
            due("row " + row, Check.read(bench, row), want);
        });
    }

    private static void cuts() {
        cutDue("behind all entries", "1:5 3:-2 3:9 7:0", 0, 4);
        cutDue("behind all but one", "1:5 3:-2 3:9", 0, 3);
        cutDue("behind the first one", "1:5", 0, 1);
        cutDue("behind none", "", 0, 0);
        cutDue("an empty row behind none", "", 2, 0);
        CHECK.test("4 cut: a full row behind all and behind all but one", () -> {
            Bench bench = Check.laidBench();
            bench.cut(3, ROOM);
            due("size behind all", bench.size(3), ROOM);
            bench.cut(3, ROOM - 1);
            due("size behind all but one", bench.size(3), ROOM - 1);
        });
        CHECK.test("4 cut: what is cut off is gone", () -> {
            Bench bench = Check.laidBench();
            bench.cut(0, 2);
            due("key(0, 2)", Check.answerOf(() -> bench.key(0, 2)), Check.PLACE);
            due("add", bench.add(0, 50, 60), 3);
            due("row", Check.read(bench, 0), "1:5 3:-2 50:60");
        });
        CHECK.test("4 cut: other rows stay", () -> {
            Bench bench = Check.laidBench();
            bench.cut(3, 0);
            due("rows", Check.readAll(bench), "1:5 3:-2 3:9 7:0 / 4:8 -2:8 9:1 0:3 /  /  / true");
        });
        for (int n : new int[] {-1, 5, LEAST_INT, MOST_INT}) {
            CHECK.refused("4 cut: n is " + n + " of 4", Check.ARGUMENT, bench -> bench.cut(0, n));
        }
        CHECK.refused("4 cut: n is 1 of an empty row", Check.ARGUMENT, bench -> bench.cut(2, 1));
        CHECK.refused("4 cut: n is -1 of an empty row", Check.ARGUMENT, bench -> bench.cut(2, -1));
        CHECK.refused("4 cut: n is 1,025 of a full row", Check.ARGUMENT, bench -> bench.cut(3, ROOM + 1));
        CHECK.refusesRows("4 cut", (bench, row) -> bench.cut(row, 0));
        CHECK.refused("4 cut: no such row, and n below 0", Check.PLACE, bench -> bench.cut(4, -1));
        CHECK.refused("4 cut: no such row, and n too large", Check.PLACE, bench -> bench.cut(-1, ROOM + 1));
    }

    private static void swapDue(String test, String want, int i, int j) {
        CHECK.test("5 swap: " + test, () -> {
            Bench bench = Check.laidBench();
            bench.swap(0, i, j);
            due("row", Check.read(bench, 0), want);
        });
    }

    private static void swaps() {
        swapDue("the first and the last entry", "7:0 3:-2 3:9 1:5", 0, 3);
        swapDue("the last and the first entry", "7:0 3:-2 3:9 1:5", 3, 0);
        swapDue("the first one with itself", "1:5 3:-2 3:9 7:0", 0, 0);
        swapDue("the last one with itself", "1:5 3:-2 3:9 7:0", 3, 3);
        CHECK.test("5 swap: the first and the last entry of a full row", () -> {
            Bench bench = new Bench();
            bench.fill(0, ROOM, 0, 0, 2);
            bench.swap(0, 0, ROOM - 1);
            due("the first one", bench.key(0, 0) + ":" + bench.tag(0, 0), "2046:1023");
            due("the last one", bench.key(0, ROOM - 1) + ":" + bench.tag(0, ROOM - 1), "0:0");
        });
        CHECK.test("5 swap: other rows stay", () -> {
            Bench bench = Check.laidBench();
            bench.swap(1, 1, 2);
            due("row 1", Check.read(bench, 1), "4:8 9:1 -2:8 0:3");
            bench.swap(1, 2, 1);
            due("all rows, changed back", Check.readAll(bench), Check.readAll(Check.laidBench()));
        });
        for (int i : new int[] {-1, 4, LEAST_INT, MOST_INT}) {
            CHECK.refused("5 swap: the first is " + i + " of 4", Check.PLACE, bench -> bench.swap(0, i, 0));
            CHECK.refused("5 swap: the second is " + i + " of 4", Check.PLACE, bench -> bench.swap(0, 0, i));
            CHECK.refused("5 swap: both are " + i + " of 4", Check.PLACE, bench -> bench.swap(0, i, i));
        }
        CHECK.refused("5 swap: an empty row", Check.PLACE, bench -> bench.swap(2, 0, 0));
        CHECK.refused("5 swap: place 1,024 of a full row", Check.PLACE, bench -> bench.swap(3, 0, ROOM));
        CHECK.refusesRows("5 swap", (bench, row) -> bench.swap(row, 0, 0));
    }

    private static void numbers() {
        CHECK.test("6 number: an empty row", () -> {
            Bench bench = Check.laidBench();
            bench.number(2);
            due("rows", Check.readAll(bench), Check.readAll(Check.laidBench()));
        });
        CHECK.test("6 number: one entry", () -> {
            Bench bench = Check.benchOfEntries(4, LEAST_INT);
            bench.number(0);
            due("row", Check.read(bench, 0), "4:0");
        });
        CHECK.test("6 number: a full row", () -> {
            Bench bench = new Bench();
            bench.fill(1, ROOM, 1, 0, 1);
            bench.sort(1, 0, 0);
            due("the last tag before", bench.tag(1, ROOM - 1), 0);
            bench.number(1);
            due("the last tag", bench.tag(1, ROOM - 1), ROOM - 1);
            due("mark", bench.mark(1), -5574989896218795001L);
        });
        CHECK.test("6 number: keys and other rows stay", () -> {
            Bench bench = Check.laidBench();
            bench.number(1);
            due("row 1", Check.read(bench, 1), "4:0 -2:1 9:2 0:3");
            bench.cut(1, 0);
            Bench other = Check.laidBench();
            other.cut(1, 0);
            due("the others", Check.readAll(bench), Check.readAll(other));
        });
        CHECK.refusesRows("6 number", (bench, row) -> bench.number(row));
    }

    private static void copyDue(String test, int from, int to) {
        CHECK.test("7 copy: " + test, () -> {
            Bench bench = Check.laidBench();
            long mark = bench.mark(from);
            int size = bench.size(from);
            bench.copy(from, to);
            due("what it became", bench.size(to) + " " + bench.mark(to), size + " " + mark);
            due("what it is like", bench.size(from) + " " + bench.mark(from), size + " " + mark);
        });
    }

    private static void copies() {
        copyDue("a row to itself", 0, 0);
        copyDue("a full row to itself", 3, 3);
        copyDue("an empty row to itself", 2, 2);
        copyDue("an empty row to a full one", 2, 3);
        copyDue("a full row to an empty one", 3, 2);
        copyDue("the first row to the last one", 0, 3);
        copyDue("the last row to the first one", 3, 0);
        CHECK.test("7 copy: tags are taken as they are, and other rows stay", () -> {
            Bench bench = Check.laidBench();
            bench.copy(1, 2);
            due("row 2", Check.read(bench, 2), "4:8 -2:8 9:1 0:3");
            bench.cut(2, 0);
            due("the others", Check.readAll(bench), Check.readAll(Check.laidBench()));
        });
        CHECK.test("7 copy: the rows are two afterwards", () -> {
            Bench bench = Check.laidBench();
            bench.copy(0, 2);
            bench.swap(2, 0, 3);
            bench.cut(2, 3);
            due("row 0", Check.read(bench, 0), "1:5 3:-2 3:9 7:0");
            bench.number(0);
            due("row 2", Check.read(bench, 2), "7:0 3:-2 3:9");
        });
        CHECK.refusesRows("7 copy from", (bench, row) -> bench.copy(row, 0));
        CHECK.refusesRows("7 copy to", (bench, row) -> bench.copy(0, row));
        CHECK.refusesRows("7 copy from and to", (bench, row) -> bench.copy(row, row));
    }

    private static void reads() {
        CHECK.test("8 size, 9 key, 10 tag, 22 mark: what is read stays", () -> {
            Bench bench = Check.laidBench();
            for (int row = 0; row < 4; row++) {
                bench.mark(row);
                if (bench.size(row) > 0) {
                    bench.key(row, 0);
                    bench.tag(row, 0);
                }
            }
            due("rows", Check.readAll(bench), Check.readAll(Check.laidBench()));
        });
        CHECK.test("8 size: an empty row", () -> due("size", Check.laidBench().size(2), 0));
        CHECK.test("8 size: a full row", () -> due("size", Check.laidBench().size(3), ROOM));
        CHECK.refusesRows("8 size", (bench, row) -> bench.size(row));
        CHECK.test("9 key, 10 tag: the first and the last entry", () -> {
            Bench bench = Check.laidBench();
            due("the first one", bench.key(0, 0) + ":" + bench.tag(0, 0), "1:5");
            due("the last one", bench.key(0, 3) + ":" + bench.tag(0, 3), "7:0");
        });
        CHECK.test("9 key, 10 tag: the last entry of a full row", () -> {
            Bench bench = new Bench();
            bench.fill(3, ROOM, 0, 0, 3);
            due("the last one", bench.key(3, ROOM - 1) + ":" + bench.tag(3, ROOM - 1), "3069:1023");
        });
        for (int i : new int[] {-1, 4, LEAST_INT, MOST_INT}) {
            CHECK.refused("9 key: entry " + i + " of 4", Check.PLACE, bench -> bench.key(0, i));
            CHECK.refused("10 tag: entry " + i + " of 4", Check.PLACE, bench -> bench.tag(0, i));
        }
        CHECK.refused("9 key: an empty row", Check.PLACE, bench -> bench.key(2, 0));
        CHECK.refused("10 tag: an empty row", Check.PLACE, bench -> bench.tag(2, 0));
        CHECK.refused("9 key: entry 1,024 of a full row", Check.PLACE, bench -> bench.key(3, ROOM));
        CHECK.refused("10 tag: entry 1,024 of a full row", Check.PLACE, bench -> bench.tag(3, ROOM));
        CHECK.refusesRows("9 key", (bench, row) -> bench.key(row, 0));
        CHECK.refusesRows("10 tag", (bench, row) -> bench.tag(row, 0));
    }

    private static void markDue(String test, long want, long... keysAndTags) {
        CHECK.test("22 mark: " + test, () -> due("mark", Check.benchOfEntries(keysAndTags).mark(0), want));
    }

    private static void marks() {
        markDue("an empty row", 7);
        markDue("the greatest key wraps", -9223372036854775592L, MOST, 0);
        markDue("the least key", -9223372036854775591L, LEAST, 0);
        markDue("the greatest tag, as a long", 36507222216L, 0, MOST_INT);
        markDue("the least tag, as a long", -36507221799L, 0, LEAST_INT);
        markDue("31 times what it is wraps", 1168231110663L, MOST, MOST_INT, MOST, MOST_INT);
        markDue("the least of all twice", -1168231097785L, LEAST, LEAST_INT, LEAST, LEAST_INT);
        CHECK.test("22 mark: a full row", () -> {
            Bench bench = new Bench();
            bench.fill(3, ROOM, 0, 5, 3);
            due("mark", bench.mark(3), 5847108011270465543L);
        });
        CHECK.refusesRows("22 mark", (bench, row) -> bench.mark(row));
    }
}

/** Counts answers that are not the ones that are due, and prints each of them. */
final class Check {
    interface Call {
        Object answer();
    }

    interface Deed {
        void run();
    }

    private final String name;
    private int looked = 0;
    private int wrong = 0;

    Check(String name) {
        this.name = name;
    }

    void due(String what, Object got, Object want) {
        looked++;
        if (!want.equals(got)) {
            wrong++;
            System.out.println(name + ": " + what + " answered " + got + ", due is " + want);
        }
    }

    /** What a call answers, or the name of what it throws behind "throws.". */
    static Object answerOf(Call call) {
        try {
            return call.answer();
        } catch (RuntimeException thrown) {
            return "throws." + thrown.getClass().getSimpleName();
        }
    }

    static Object answerOf(Deed deed) {
        return answerOf(() -> {
            deed.run();
            return "done";
        });
    }

    void place(String what, OrderBench bench, Deed deed) {
        dueThrow(what, bench, deed, "IndexOutOfBoundsException");
    }

    void argument(String what, OrderBench bench, Deed deed) {
        dueThrow(what, bench, deed, "IllegalArgumentException");
    }

    void state(String what, OrderBench bench, Deed deed) {
        dueThrow(what, bench, deed, "IllegalStateException");
    }

    /** A call that throws changes nothing: all rows are read before and after it. */
    private void dueThrow(String what, OrderBench bench, Deed deed, String exception) {
        String before = readAll(bench);
        due(what, answerOf(deed), "throws." + exception);
        due(what + " leaves all as it was", readAll(bench), before);
    }

    static String readAll(OrderBench bench) {
        StringBuilder text = new StringBuilder();
        for (int row = 0; row < 4; row++) {
            text.append(read(bench, row)).append('/');
        }
        return text.append(bench.within()).toString();
    }

    /** The entries of a row, as key:tag. */
    static String read(OrderBench bench, int row) {
        StringBuilder text = new StringBuilder();
        for (int i = 0; i < bench.size(row); i++) {
            text.append(i == 0 ? "" : " ").append(bench.key(row, i)).append(':').append(bench.tag(row, i));
        }
        return text.toString();
    }

    /** A new object whose row 0 has these keys, with tags 0, 1, .. */
    static OrderBench benchOf(long... keys) {
        OrderBench bench = new OrderBench();
        put(bench, 0, keys);
        return bench;
    }

    static void put(OrderBench bench, int row, long... keys) {
        bench.cut(row, 0);
        for (int i = 0; i < keys.length; i++) {
            bench.add(row, keys[i], i);
        }
    }

    void end() {
        System.out.println(name + ": " + looked + " answers looked at, " + wrong + " not as due");
        if (wrong != 0) {
            System.exit(1);
        }
    }
}

import java.math.BigInteger;
import java.util.ArrayList;
import java.util.Comparator;
import java.util.List;

/** The document told once more, in the plainest way, with the Java library and without care for speed. */
final class Model {
    record Entry(long key, int tag) {
    }

    private static final int ROOM = 1024;

    final List<List<Entry>> rows = new ArrayList<>();

    Model() {
        for (int i = 0; i < 4; i++) {
            rows.add(new ArrayList<>());
        }
    }

    static Comparator<Long> keysBy(int order) {
        return switch (order) {
            case 0 -> Comparator.naturalOrder();
            case 1 -> Comparator.reverseOrder();
            case 2 -> Long::compareUnsigned;
            case 3 -> Comparator.<Long>comparingInt(k -> Long.toBinaryString(k).replace("0", "").length())
                    .thenComparing(Comparator.naturalOrder());
            case 4 -> Comparator.comparing(k -> Math.floorMod(k, 2));
            case 5 -> Comparator.comparing(k -> Math.floorMod(k, 256));
            case 6 -> Comparator.<Long, BigInteger>comparing(k -> BigInteger.valueOf(k).abs())
                    .thenComparing(k -> k < 0 ? 0 : 1);
            case 7 -> Model::compareFromLowestBit;
            default -> throw new IllegalArgumentException();
        };
    }

    private static int compareFromLowestBit(long a, long b) {
        for (int bit = 0; bit < 64; bit++) {
            int found = Long.compare(a >>> bit & 1, b >>> bit & 1);
            if (found != 0) {
                return found;
            }
        }
        return 0;
    }

    static Comparator<Entry> entriesBy(int order) {
        Comparator<Long> keys = keysBy(order);
        return (a, b) -> keys.compare(a.key, b.key);
    }

    private List<Entry> row(int row) {
        if (row < 0 || row > 3) {
            throw new IndexOutOfBoundsException();
        }
        return rows.get(row);
    }

    private static void needArgument(boolean fine) {
        if (!fine) {
            throw new IllegalArgumentException();
        }
    }

    private static void needState(boolean fine) {
        if (!fine) {
            throw new IllegalStateException();
        }
    }

    private static boolean isInOrder(List<Entry> line, Comparator<Entry> by) {
        for (int i = 1; i < line.size(); i++) {
            if (by.compare(line.get(i), line.get(i - 1)) < 0) {
                return false;
            }
        }
        return true;
    }

    int add(int row, long key, int tag) {
        List<Entry> line = row(row);
        needState(line.size() < ROOM);
        line.add(new Entry(key, tag));
        return line.size();
    }

    void fill(int row, int n, int kind, long first, int step) {
        List<Entry> line = row(row);
        needArgument(n >= 0 && n <= ROOM && kind >= 0 && kind <= 5);
        long[] keys = new long[n];
        for (int i = 0; i < n; i++) {
            int k = kind == 1 ? n - 1 - i : kind == 2 && i >= n / 2 ? i - n / 2 : i;
            BigInteger steps = BigInteger.valueOf(k).multiply(BigInteger.valueOf(step));
            keys[i] = BigInteger.valueOf(first).add(steps).longValue();
            if (kind == 3 || kind == 4) {
                long product = BigInteger.valueOf(first).multiply(steps.add(BigInteger.ONE)).longValue();
                keys[i] = product ^ product >>> 29;
            }
            if (kind == 4) {
                keys[i] = Math.floorMod(keys[i], 8L);
            }
        }
        if (kind == 5 && step > 0) {
            for (long i = step; i + 1 < n; i += step) {
                long held = keys[(int) i];
                keys[(int) i] = keys[(int) i + 1];
                keys[(int) i + 1] = held;
            }
        }
        line.clear();
        for (int i = 0; i < n; i++) {
            line.add(new Entry(keys[i], i));
        }
    }

    void cut(int row, int n) {
        List<Entry> line = row(row);
        needArgument(n >= 0 && n <= line.size());
        line.subList(n, line.size()).clear();
    }

    void swap(int row, int i, int j) {
        List<Entry> line = row(row);
        Entry a = line.get(i);
        Entry b = line.get(j);
        line.set(i, b);
        line.set(j, a);
    }

    void number(int row) {
        List<Entry> line = row(row);
        for (int i = 0; i < line.size(); i++) {
            line.set(i, new Entry(line.get(i).key, i));
        }
    }

    void copy(int from, int to) {
        List<Entry> source = row(from);
        row(to);
        rows.set(to, new ArrayList<>(source));
    }

    int size(int row) {
        return row(row).size();
    }

    long key(int row, int i) {
        return row(row).get(i).key;
    }

    int tag(int row, int i) {
        return row(row).get(i).tag;
    }

    void sort(int row, int way, int order) {
        List<Entry> line = row(row);
        needArgument(way >= 0 && way <= 6);
        Comparator<Entry> by = entriesBy(order);
        needArgument(way != 6 || order <= 2 || order == 5);
        boolean steady = way == 0 || way >= 4;
        line.sort(steady ? by : by.thenComparing(Entry::tag).thenComparing(Entry::key));
    }

    boolean sorted(int row, int order) {
        List<Entry> line = row(row);
        return isInOrder(line, entriesBy(order));
    }

    int runs(int row, int order) {
        List<Entry> line = row(row);
        Comparator<Entry> by = entriesBy(order);
        int found = 0;
        int at = 0;
        while (at < line.size()) {
            found++;
            int end = at + 1;
            boolean falling = end < line.size() && by.compare(line.get(end), line.get(at)) < 0;
            while (end < line.size() && by.compare(line.get(end), line.get(end - 1)) < 0 == falling) {
                end++;
            }
            at = end;
        }
        return found;
    }

    int inversions(int row, int order) {
        List<Entry> line = row(row);
        Comparator<Entry> by = entriesBy(order);
        int found = 0;
        for (int j = 0; j < line.size(); j++) {
            for (int i = 0; i < j; i++) {
                found += by.compare(line.get(j), line.get(i)) < 0 ? 1 : 0;
            }
        }
        return found;
    }

    int ranked(int row, int order, int k) {
        List<Entry> line = new ArrayList<>(row(row));
        line.get(k);
        line.sort(entriesBy(order));
        return line.get(k).tag;
    }

    int climb(int row, int order) {
        List<Entry> line = row(row);
        Comparator<Entry> by = entriesBy(order);
        int[] upTo = new int[line.size()];
        int most = 0;
        for (int j = 0; j < line.size(); j++) {
            for (int i = 0; i < j; i++) {
                if (by.compare(line.get(i), line.get(j)) < 0) {
                    upTo[j] = Math.max(upTo[j], upTo[i]);
                }
            }
            upTo[j]++;
            most = Math.max(most, upTo[j]);
        }
        return most;
    }

    int find(int row, int order, long key, boolean alike) {
        List<Entry> line = row(row);
        Comparator<Entry> by = entriesBy(order);
        needState(isInOrder(line, by));
        Entry sought = new Entry(key, 0);
        return (int) line.stream().filter(e -> by.compare(e, sought) < (alike ? 1 : 0)).count();
    }

    int merge(int a, int b, int to, int order) {
        List<Entry> first = row(a);
        List<Entry> second = row(b);
        row(to);
        Comparator<Entry> by = entriesBy(order);
        needState(isInOrder(first, by) && isInOrder(second, by));
        needState(first.size() + second.size() <= ROOM);
        List<Entry> all = new ArrayList<>(first);
        all.addAll(second);
        all.sort(by);
        rows.set(to, all);
        return all.size();
    }

    int single(int row, int order) {
        List<Entry> line = row(row);
        Comparator<Entry> by = entriesBy(order);
        needState(isInOrder(line, by));
        for (int i = line.size() - 1; i > 0; i--) {
            if (by.compare(line.get(i), line.get(i - 1)) == 0) {
                line.remove(i);
            }
        }
        return line.size();
    }

    void front(int row, int order, int k) {
        List<Entry> line = row(row);
        Comparator<Entry> by = entriesBy(order);
        needArgument(k >= 0 && k <= line.size());
        List<Integer> places = new ArrayList<>();
        for (int i = 0; i < line.size(); i++) {
            places.add(i);
        }
        places.sort((i, j) -> by.compare(line.get(i), line.get(j)));
        List<Integer> taken = places.subList(0, k);
        List<Entry> result = new ArrayList<>();
        taken.forEach(i -> result.add(line.get(i)));
        boolean[] gone = new boolean[line.size()];
        taken.forEach(i -> gone[i] = true);
        for (int i = 0; i < line.size(); i++) {
            if (!gone[i]) {
                result.add(line.get(i));
            }
        }
        rows.set(row, result);
    }

    long mark(int row) {
        BigInteger mark = BigInteger.valueOf(7);
        for (Entry entry : row(row)) {
            mark = mark.multiply(BigInteger.valueOf(31)).add(BigInteger.valueOf(entry.key))
                    .add(BigInteger.valueOf(entry.tag).multiply(BigInteger.valueOf(17)));
            mark = BigInteger.valueOf(mark.longValue());
        }
        return mark.longValue();
    }
}

/**
 * An OrderBench that counts its calls. What an object answers behind its 512th call is free,
 * so a test that would lean on such an answer ends here.
 */
final class Bench {
    static final int MOST_CALLS = 512;

    private final OrderBench bench = new OrderBench();
    private int calls = 0;

    private OrderBench used() {
        if (calls >= MOST_CALLS) {
            throw new AssertionError("a test uses an object for more than " + MOST_CALLS + " calls");
        }
        calls++;
        return bench;
    }

    int add(int row, long key, int tag) {
        return used().add(row, key, tag);
    }

    void fill(int row, int n, int kind, long first, int step) {
        used().fill(row, n, kind, first, step);
    }

    void cut(int row, int n) {
        used().cut(row, n);
    }

    void swap(int row, int i, int j) {
        used().swap(row, i, j);
    }

    void number(int row) {
        used().number(row);
    }

    void copy(int from, int to) {
        used().copy(from, to);
    }

    int size(int row) {
        return used().size(row);
    }

    long key(int row, int i) {
        return used().key(row, i);
    }

    int tag(int row, int i) {
        return used().tag(row, i);
    }

    void sort(int row, int way, int order) {
        used().sort(row, way, order);
    }

    boolean within() {
        return used().within();
    }

    boolean sorted(int row, int order) {
        return used().sorted(row, order);
    }

    int runs(int row, int order) {
        return used().runs(row, order);
    }

    int inversions(int row, int order) {
        return used().inversions(row, order);
    }

    int ranked(int row, int order, int k) {
        return used().ranked(row, order, k);
    }

    int climb(int row, int order) {
        return used().climb(row, order);
    }

    int find(int row, int order, long key, boolean alike) {
        return used().find(row, order, key, alike);
    }

    int merge(int a, int b, int to, int order) {
        return used().merge(a, b, to, order);
    }

    int single(int row, int order) {
        return used().single(row, order);
    }

    void front(int row, int order, int k) {
        used().front(row, order, k);
    }

    long mark(int row) {
        return used().mark(row);
    }
}

import java.util.Arrays;

/**
 * Four rows of entries, each a key and a tag, that are brought into order in seven ways by eight orders,
 * and of which can be told what stands in order, what does not, and what comes first.
 */
public final class OrderBench {
    public static final int NONE = -1;

    private static final int ROWS = 4;
    private static final int ROOM = 1024;
    private static final long SIGN = 1L << 63;

    private static final int LESSER = 0;
    private static final int GREATER = 1;
    private static final int WITHOUT_SIGN = 2;
    private static final int FEWER_BITS = 3;
    private static final int EVEN_FIRST = 4;
    private static final int LOWEST_BYTE = 5;
    private static final int BY_SIZE = 6;
    private static final int FROM_LOWEST_BIT = 7;

    private static final int BY_INSERTION = 0;
    private static final int BY_HEAP = 1;
    private static final int BY_PARTING = 2;
    private static final int BY_GAPS = 3;
    private static final int BY_MERGING = 4;
    private static final int BY_PILE = 5;
    private static final int BY_COUNTING = 6;

    private final Row[] rows;
    // Both are made once and used again by every call that needs room beside the rows.
    private final Row desk;
    private final Row spare;
    private final Judge judge;
    private final Pile pile;
    private final int[] counts;
    private boolean keptLimit;

    public OrderBench() {
        rows = new Row[ROWS];
        for (int i = 0; i < ROWS; i++) {
            rows[i] = new Row();
        }
        desk = new Row();
        spare = new Row();
        judge = new Judge();
        pile = new Pile(spare, judge);
        counts = new int[Counting.VALUES];
        keptLimit = true;
    }

    public int add(int row, long key, int tag) throws IndexOutOfBoundsException, IllegalStateException {
        Row line = rowAt(row);
        if (line.count >= ROOM) {
            throw new IllegalStateException("the row is full");
        }
        line.put(line.count, key, tag);
        line.count++;
        return line.count;
    }

    public void fill(int row, int n, int kind, long first, int step)
            throws IndexOutOfBoundsException, IllegalArgumentException {
        Row line = rowAt(row);
        if (n < 0 || n > ROOM) {
            throw new IllegalArgumentException("a row has 0 to 1024 entries");
        }
        if (kind < 0 || kind > 5) {
            throw new IllegalArgumentException("there is no such kind");
        }
        line.count = n;
        line.numberTags();
        for (int i = 0; i < n; i++) {
            line.keys[i] = keyOfKind(kind, n, i, first, step);
        }
        if (kind == 5) {
            changeNeighbours(line, step);
        }
    }

    public void cut(int row, int n) throws IndexOutOfBoundsException, IllegalArgumentException {
        Row line = rowAt(row);
        if (n < 0 || n > line.count) {
            throw new IllegalArgumentException("the row has not as many entries");
        }
        line.count = n;
    }

    public void swap(int row, int i, int j) throws IndexOutOfBoundsException {
        Row line = rowAt(row);
        checkEntry(line, i);
        checkEntry(line, j);
        line.change(i, j);
    }

    public void number(int row) throws IndexOutOfBoundsException {
        rowAt(row).numberTags();
    }

    public void copy(int from, int to) throws IndexOutOfBoundsException {
        Row source = rowAt(from);
        Row target = rowAt(to);
        target.becomeLike(source);
    }

    public int size(int row) throws IndexOutOfBoundsException {
        return rowAt(row).count;
    }

    public long key(int row, int i) throws IndexOutOfBoundsException {
        Row line = rowAt(row);
        checkEntry(line, i);
        return line.keys[i];
    }

    public int tag(int row, int i) throws IndexOutOfBoundsException {
        Row line = rowAt(row);
        checkEntry(line, i);
        return line.tags[i];
    }

    public void sort(int row, int way, int order) throws IndexOutOfBoundsException, IllegalArgumentException {
        Row line = rowAt(row);
        checkOrder(order);
        checkWay(way, order);
        judge.begin(order, !isSteady(way));
        switch (way) {
            case BY_INSERTION:
                Insertion.arrange(line, judge, 0, 0, line.count);
                break;
            case BY_HEAP:
                Heap.arrange(line, judge, 0, line.count);
                break;
            case BY_PARTING:
                Parting.arrange(line, judge, 0, line.count, 2 * doublings(line.count));
                break;
            case BY_GAPS:
                Insertion.arrangeOverGaps(line, judge);
                break;
            case BY_MERGING:
                Merging.arrange(line, spare, judge);
                break;
            case BY_PILE:
                pile.arrange(line);
                break;
            default:
                Counting.arrange(line, spare, counts, order);
                break;
        }
        keptLimit = judge.compared <= mostComparisons(way, line.count);
    }

    public boolean within() {
        return keptLimit;
    }

    public boolean sorted(int row, int order) throws IndexOutOfBoundsException, IllegalArgumentException {
        Row line = rowAt(row);
        judgeBy(order);
        return isInOrder(line);
    }

    public int runs(int row, int order) throws IndexOutOfBoundsException, IllegalArgumentException {
        Row line = rowAt(row);
        judgeBy(order);
        int found = 0;
        int from = 0;
        while (from < line.count && found < line.count) {
            from = judge.runEnd(line, from, judge.falls(line, from));
            found++;
        }
        return found;
    }

    public int inversions(int row, int order) throws IndexOutOfBoundsException, IllegalArgumentException {
        Row line = rowAt(row);
        judgeBy(order);
        desk.becomeLike(line);
        return Merging.arrange(desk, spare, judge);
    }

    public int ranked(int row, int order, int k) throws IndexOutOfBoundsException, IllegalArgumentException {
        Row line = rowAt(row);
        checkEntry(line, k);
        judgeBy(order);
        desk.becomeLike(line);
        Merging.arrange(desk, spare, judge);
        return desk.tags[k];
    }

    public int climb(int row, int order) throws IndexOutOfBoundsException, IllegalArgumentException {
        Row line = rowAt(row);
        judgeBy(order);
        // The desk holds, for each length, the key that can end a climb of that length and comes first.
        int longest = 0;
        for (int i = 0; i < line.count; i++) {
            int place = judge.placeIn(desk, 0, longest, line.keys[i], line.tags[i], false);
            desk.take(place, line, i);
            longest = Math.max(longest, place + 1);
        }
        return longest;
    }

    public int find(int row, int order, long key, boolean alike)
            throws IndexOutOfBoundsException, IllegalArgumentException, IllegalStateException {
        Row line = rowAt(row);
        judgeBy(order);
        checkInOrder(line);
        return judge.placeIn(line, 0, line.count, key, 0, alike);
    }

    public int merge(int a, int b, int to, int order)
            throws IndexOutOfBoundsException, IllegalArgumentException, IllegalStateException {
        Row first = rowAt(a);
        Row second = rowAt(b);
        Row target = rowAt(to);
        judgeBy(order);
        checkInOrder(first);
        checkInOrder(second);
        int middle = first.count;
        int total = middle + second.count;
        if (total > ROOM) {
            throw new IllegalStateException("there is no room for all entries of both rows");
        }
        // They are laid on the spare row first, since the target may be one of them.
        spare.takeMany(0, first, 0, middle);
        spare.takeMany(middle, second, 0, second.count);
        Merging.join(spare, 0, middle, total, target, judge);
        target.count = total;
        return total;
    }

    public int single(int row, int order)
            throws IndexOutOfBoundsException, IllegalArgumentException, IllegalStateException {
        Row line = rowAt(row);
        judgeBy(order);
        checkInOrder(line);
        int left = 0;
        for (int i = 0; i < line.count; i++) {
            if (left == 0 || judge.before(line, left - 1, line, i)) {
                line.take(left, line, i);
                left++;
            }
        }
        line.count = left;
        return left;
    }

    public void front(int row, int order, int k) throws IndexOutOfBoundsException, IllegalArgumentException {
        Row line = rowAt(row);
        judgeBy(order);
        if (k < 0 || k > line.count) {
            throw new IllegalArgumentException("the row has not as many entries");
        }
        desk.becomeLike(line);
        desk.numberTags();
        Merging.arrange(desk, spare, judge);
        bringToFront(line, k);
    }

    public long mark(int row) throws IndexOutOfBoundsException {
        Row line = rowAt(row);
        long mark = 7;
        for (int i = 0; i < line.count; i++) {
            mark = 31 * mark + line.keys[i] + 17L * line.tags[i];
        }
        return mark;
    }

    private Row rowAt(int row) {
        if (row < 0 || row >= ROWS) {
            throw new IndexOutOfBoundsException("there is no such row");
        }
        return rows[row];
    }

    private static void checkEntry(Row line, int i) {
        if (i < 0 || i >= line.count) {
            throw new IndexOutOfBoundsException("there is no such entry");
        }
    }

    private static void checkOrder(int order) {
        if (order < LESSER || order > FROM_LOWEST_BIT) {
            throw new IllegalArgumentException("there is no such order");
        }
    }

    private static void checkWay(int way, int order) {
        if (way < BY_INSERTION || way > BY_COUNTING) {
            throw new IllegalArgumentException("there is no such way");
        }
        if (way == BY_COUNTING && !Counting.serves(order)) {
            throw new IllegalArgumentException("that way is not for that order");
        }
    }

    /** From here on the judge tells by this order, whatever the tags are. */
    private void judgeBy(int order) {
        checkOrder(order);
        judge.begin(order, false);
    }

    private void checkInOrder(Row line) {
        if (!isInOrder(line)) {
            throw new IllegalStateException("the row is not in this order");
        }
    }

    private boolean isInOrder(Row line) {
        for (int i = 1; i < line.count; i++) {
            if (judge.drops(line, i)) {
                return false;
            }
        }
        return true;
    }

    private static long keyOfKind(int kind, int n, int i, long first, int step) {
        switch (kind) {
            case 1:
                return first + (long) (n - 1 - i) * step;
            case 2:
                return first + (long) (i < n / 2 ? i : i - n / 2) * step;
            case 3:
                return scattered(first, i, step);
            case 4:
                return scattered(first, i, step) & 7;
            default:
                return first + (long) i * step;
        }
    }

    private static long scattered(long first, int i, int step) {
        long product = first * ((long) i * step + 1);
        return product ^ (product >>> 29);
    }

    private static void changeNeighbours(Row line, int step) {
        if (step <= 0) {
            return;
        }
        for (int i = step; i < line.count - 1; i += step) {
            long held = line.keys[i];
            line.keys[i] = line.keys[i + 1];
            line.keys[i + 1] = held;
        }
    }

    /** The desk holds the row in order, with places for tags. */
    private void bringToFront(Row line, int k) {
        // The spare row's tags tell which places are taken: it has nothing else to hold here.
        Arrays.fill(spare.tags, 0);
        for (int i = 0; i < k; i++) {
            int place = desk.tags[i];
            spare.tags[place] = 1;
            desk.tags[i] = line.tags[place];
        }
        int to = k;
        for (int place = 0; place < line.count; place++) {
            if (spare.tags[place] == 0) {
                desk.take(to, line, place);
                to++;
            }
        }
        line.becomeLike(desk);
    }

    private static boolean isSteady(int way) {
        return way == BY_INSERTION || way == BY_MERGING || way == BY_PILE || way == BY_COUNTING;
    }

    private static int mostComparisons(int way, int n) {
        switch (way) {
            case BY_INSERTION:
                return n * (n - 1) / 2;
            case BY_GAPS:
                return n * n;
            case BY_COUNTING:
                return 0;
            default:
                return 8 * n * (doublings(n) + 2);
        }
    }

    /** The least number l with 2^l at least n. */
    private static int doublings(int n) {
        int l = 0;
        while (l < 30 && (1 << l) < n) {
            l++;
        }
        return l;
    }

    /** Entries from place 0 on; who calls sees to it that places are below the room. */
    private static final class Row {
        final long[] keys;
        final int[] tags;
        int count;

        Row() {
            keys = new long[ROOM];
            tags = new int[ROOM];
            count = 0;
        }

        void put(int place, long key, int tag) {
            keys[place] = key;
            tags[place] = tag;
        }

        void take(int place, Row source, int from) {
            keys[place] = source.keys[from];
            tags[place] = source.tags[from];
        }

        void takeMany(int place, Row source, int from, int n) {
            System.arraycopy(source.keys, from, keys, place, n);
            System.arraycopy(source.tags, from, tags, place, n);
        }

        void becomeLike(Row source) {
            takeMany(0, source, 0, source.count);
            count = source.count;
        }

        void change(int i, int j) {
            long key = keys[i];
            int tag = tags[i];
            take(i, this, j);
            put(j, key, tag);
        }

        void turnRound(int from, int to) {
            int low = from;
            int high = to - 1;
            while (low < high) {
                change(low, high);
                low++;
                high--;
            }
        }

        void numberTags() {
            for (int i = 0; i < count; i++) {
                tags[i] = i;
            }
        }
    }

    /** Tells which of two entries comes first, and counts how often it was asked. */
    private static final class Judge {
        int order;
        boolean byTags;
        int compared;

        void begin(int newOrder, boolean tagsPartAlikeOnes) {
            order = newOrder;
            byTags = tagsPartAlikeOnes;
            compared = 0;
        }

        int compare(long key, int tag, long otherKey, int otherTag) {
            compared++;
            int found = compareKeys(order, key, otherKey);
            if (found != 0 || !byTags) {
                return found;
            }
            return tag != otherTag ? Integer.compare(tag, otherTag) : Long.compare(key, otherKey);
        }

        boolean before(Row row, int i, Row other, int j) {
            return compare(row.keys[i], row.tags[i], other.keys[j], other.tags[j]) < 0;
        }

        /** Whether an entry comes before the one that stands before it. */
        boolean drops(Row row, int i) {
            return compare(row.keys[i], row.tags[i], row.keys[i - 1], row.tags[i - 1]) < 0;
        }

        boolean falls(Row row, int from) {
            return from + 1 < row.count && drops(row, from + 1);
        }

        /** Where the run that begins at a place ends; falling tells of its first two entries. */
        int runEnd(Row row, int from, boolean falling) {
            int end = Math.min(from + 2, row.count);
            while (end < row.count && drops(row, end) == falling) {
                end++;
            }
            return end;
        }

        /** The place in a part that is in order at which an entry goes, behind those alike to it or before them. */
        int placeIn(Row row, int from, int to, long key, int tag, boolean behindAlike) {
            int limit = behindAlike ? 1 : 0;
            int low = from;
            int high = to;
            while (low < high) {
                int middle = (low + high) >>> 1;
                if (compare(row.keys[middle], row.tags[middle], key, tag) < limit) {
                    low = middle + 1;
                } else {
                    high = middle;
                }
            }
            return low;
        }

        /** What placeIn answers, found with fewer comparisons if it is near. */
        int placeByLeaps(Row row, int from, int to, long key, int tag, boolean behindAlike) {
            int limit = behindAlike ? 1 : 0;
            int low = from;
            int step = 1;
            while (low + step <= to && compare(row.keys[low + step - 1], row.tags[low + step - 1], key, tag) < limit) {
                low += step;
                step *= 2;
            }
            for (step /= 2; step > 0; step /= 2) {
                int next = low + step - 1;
                if (next < to && compare(row.keys[next], row.tags[next], key, tag) < limit) {
                    low += step;
                }
            }
            return low;
        }

        private static int compareKeys(int order, long a, long b) {
            long x = a;
            long y = b;
            switch (order) {
                case GREATER:
                    x = b;
                    y = a;
                    break;
                case WITHOUT_SIGN:
                    x = a ^ SIGN;
                    y = b ^ SIGN;
                    break;
                case FEWER_BITS:
                    x = Long.bitCount(a);
                    y = Long.bitCount(b);
                    break;
                case EVEN_FIRST:
                    x = a & 1;
                    y = b & 1;
                    break;
                case LOWEST_BYTE:
                    x = a & 255;
                    y = b & 255;
                    break;
                case BY_SIZE:
                    // Below 0 every long has its size, the least one too; the greater size is the lesser there.
                    x = b < 0 ? b : -b;
                    y = a < 0 ? a : -a;
                    break;
                case FROM_LOWEST_BIT:
                    long differing = (a ^ b) & -(a ^ b);
                    x = (a & differing) == 0 ? 0 : 1;
                    y = (b & differing) == 0 ? 0 : 1;
                    break;
                default:
                    break;
            }
            if (x == y && (order == FEWER_BITS || order == BY_SIZE)) {
                x = a;
                y = b;
            }
            return x < y ? -1 : x > y ? 1 : 0;
        }
    }

    private static final class Insertion {
        private static final int[] GAPS = {701, 301, 132, 57, 23, 10, 4, 1};

        /** Puts the entries from start on, one by one, to their places among those in order from place from on. */
        static void arrange(Row row, Judge judge, int from, int start, int to) {
            for (int i = start; i < to; i++) {
                long key = row.keys[i];
                int tag = row.tags[i];
                int place = judge.placeIn(row, from, i, key, tag, true);
                row.takeMany(place + 1, row, place, i - place);
                row.put(place, key, tag);
            }
        }

        static void arrangeOverGaps(Row row, Judge judge) {
            for (int gap : GAPS) {
                for (int i = gap; i < row.count; i++) {
                    insertOverGap(row, judge, i, gap);
                }
            }
        }

        private static void insertOverGap(Row row, Judge judge, int i, int gap) {
            long key = row.keys[i];
            int tag = row.tags[i];
            int place = i;
            while (place >= gap && judge.compare(key, tag, row.keys[place - gap], row.tags[place - gap]) < 0) {
                row.take(place, row, place - gap);
                place -= gap;
            }
            row.put(place, key, tag);
        }
    }

    /** A heap whose last entry in the order stands at its top. */
    private static final class Heap {
        static void arrange(Row row, Judge judge, int from, int to) {
            int n = to - from;
            for (int top = n / 2 - 1; top >= 0; top--) {
                sink(row, judge, from, top, n);
            }
            for (int last = n - 1; last > 0; last--) {
                row.change(from, from + last);
                sink(row, judge, from, 0, last);
            }
        }

        private static void sink(Row row, Judge judge, int from, int top, int n) {
            long key = row.keys[from + top];
            int tag = row.tags[from + top];
            int hole = top;
            for (int child = 2 * top + 1; child < n; child = 2 * child + 1) {
                if (child + 1 < n && judge.before(row, from + child, row, from + child + 1)) {
                    child++;
                }
                if (judge.compare(key, tag, row.keys[from + child], row.tags[from + child]) >= 0) {
                    break;
                }
                row.take(from + hole, row, from + child);
                hole = child;
            }
            row.put(from + hole, key, tag);
        }
    }

    private static final class Parting {
        private static final int FEW = 16;

        private static void arrange(Row row, Judge judge, int from, int to, int depthLeft) {
            if (to - from <= FEW) {
                Insertion.arrange(row, judge, from, from, to);
            } else if (depthLeft <= 0) {
                Heap.arrange(row, judge, from, to);
            } else {
                row.change(from, middleOfThree(row, judge, from, from + (to - from) / 2, to - 1));
                int border = part(row, judge, from, to);
                arrange(row, judge, from, border, depthLeft - 1);
                arrange(row, judge, border + 1, to, depthLeft - 1);
            }
        }

        private static int middleOfThree(Row row, Judge judge, int a, int b, int c) {
            boolean rising = judge.before(row, a, row, b);
            int first = rising ? a : b;
            int second = rising ? b : a;
            if (!judge.before(row, c, row, second)) {
                return second;
            }
            return judge.before(row, c, row, first) ? first : c;
        }

        /** Parts the entries by the one at from, and answers where that one stands then. */
        private static int part(Row row, Judge judge, int from, int to) {
            int low = from + 1;
            int high = to - 1;
            while (low <= high) {
                while (low <= high && judge.before(row, low, row, from)) {
                    low++;
                }
                while (low <= high && judge.before(row, from, row, high)) {
                    high--;
                }
                if (low <= high) {
                    row.change(low, high);
                    low++;
                    high--;
                }
            }
            row.change(from, high);
            return high;
        }
    }

    private static final class Merging {
        /** Answers how many pairs stood the other way round. */
        static int arrange(Row row, Row spare, Judge judge) {
            int n = row.count;
            int turned = 0;
            for (int width = 1; width < n; width *= 2) {
                for (int from = 0; from < n; from += 2 * width) {
                    int middle = Math.min(from + width, n);
                    int to = Math.min(from + 2 * width, n);
                    turned += join(row, from, middle, to, spare, judge);
                }
                row.takeMany(0, spare, 0, n);
            }
            return turned;
        }

        /** Joins two parts in order that stand one behind the other, to the same places of another row. */
        static int join(Row source, int from, int middle, int to, Row target, Judge judge) {
            int low = from;
            int high = middle;
            int turned = 0;
            for (int place = from; place < to; place++) {
                if (low >= middle || (high < to && judge.before(source, high, source, low))) {
                    target.take(place, source, high);
                    high++;
                    turned += middle - low;
                } else {
                    target.take(place, source, low);
                    low++;
                }
            }
            return turned;
        }
    }

    /** Runs that stand one behind the other: run i from border i to border i + 1. */
    private static final class Pile {
        // A row with fewer entries is made one run; of others every run but the last gets at least half as many.
        private static final int FEW = 32;
        private static final int MOST_RUNS = ROOM / (FEW / 2) + 1;
        private static final int WINS_BEFORE_LEAP = 7;

        private final Row spare;
        private final Judge judge;
        private final int[] borders;
        private int height;

        Pile(Row spare, Judge judge) {
            this.spare = spare;
            this.judge = judge;
            borders = new int[MOST_RUNS + 1];
            height = 0;
        }

        void arrange(Row row) {
            int least = leastRun(row.count);
            int from = 0;
            height = 0;
            for (int found = 0; found < MOST_RUNS && from < row.count; found++) {
                from = makeRun(row, from, least);
                height++;
                borders[height] = from;
                for (int at = unevenRun(); at >= 0 && height > 1; at = unevenRun()) {
                    joinWithNext(row, at);
                    height--;
                }
            }
            for (; height > 1; height--) {
                joinWithNext(row, shorterOfLast());
            }
        }

        private static int leastRun(int n) {
            int rest = n;
            int odd = 0;
            while (rest >= FEW) {
                odd |= rest & 1;
                rest >>= 1;
            }
            return rest + odd;
        }

        private int makeRun(Row row, int from, int least) {
            boolean falling = judge.falls(row, from);
            int end = judge.runEnd(row, from, falling);
            if (falling) {
                row.turnRound(from, end);
            }
            int due = Math.min(from + least, row.count);
            Insertion.arrange(row, judge, from, end, due);
            return Math.max(end, due);
        }

        private int lengthOf(int run) {
            return borders[run + 1] - borders[run];
        }

        /** The run to join with the next one, so that lengths keep growing downwards; NONE if they do. */
        private int unevenRun() {
            int last = height - 1;
            if (last < 1) {
                return NONE;
            }
            boolean uneven = last > 1 && lengthOf(last - 2) <= lengthOf(last - 1) + lengthOf(last)
                    || last > 2 && lengthOf(last - 3) <= lengthOf(last - 2) + lengthOf(last - 1);
            if (uneven) {
                return shorterOfLast();
            }
            return lengthOf(last - 1) <= lengthOf(last) ? last - 1 : NONE;
        }

        private int shorterOfLast() {
            int last = height - 1;
            return last > 1 && lengthOf(last - 2) < lengthOf(last) ? last - 2 : last - 1;
        }

        /** Who calls takes one off the height, so that the end of its loop is seen there. */
        private void joinWithNext(Row row, int run) {
            int middle = borders[run + 1];
            int to = borders[run + 2];
            int from = judge.placeByLeaps(row, borders[run], middle, row.keys[middle], row.tags[middle], true);
            for (int i = run + 1; i < height; i++) {
                borders[i] = borders[i + 1];
            }
            spare.takeMany(0, row, from, middle - from);
            joinFromSpare(row, from, middle, to);
        }

        /** The first part lies on the spare row; what is left of the second one in the end stands where it should. */
        private void joinFromSpare(Row row, int from, int middle, int to) {
            int n = middle - from;
            int low = 0;
            int high = middle;
            int lowWins = 0;
            int highWins = 0;
            // Each turn puts one entry or more where they go, so there are no more turns than entries.
            for (int turn = from; turn < to && low < n && high < to; turn++) {
                int place = from + low + high - middle;
                if (judge.before(row, high, spare, low)) {
                    int end = high + 1;
                    lowWins = 0;
                    highWins++;
                    if (highWins >= WINS_BEFORE_LEAP) {
                        highWins = 0;
                        end = judge.placeByLeaps(row, end, to, spare.keys[low], spare.tags[low], false);
                    }
                    row.takeMany(place, row, high, end - high);
                    high = end;
                } else {
                    int end = low + 1;
                    highWins = 0;
                    lowWins++;
                    if (lowWins >= WINS_BEFORE_LEAP) {
                        lowWins = 0;
                        end = judge.placeByLeaps(spare, end, n, row.keys[high], row.tags[high], true);
                    }
                    row.takeMany(place, spare, low, end - low);
                    low = end;
                }
            }
            row.takeMany(from + low + high - middle, spare, low, n - low);
        }
    }

    private static final class Counting {
        static final int VALUES = 256;

        static boolean serves(int order) {
            return order == LESSER || order == GREATER || order == WITHOUT_SIGN || order == LOWEST_BYTE;
        }

        static void arrange(Row row, Row spare, int[] counts, int order) {
            int bits = order == LOWEST_BYTE ? 8 : 64;
            long turned = turnedBits(order);
            for (int shift = 0; shift < bits; shift += 8) {
                arrangeByByte(row, spare, counts, turned, shift);
            }
        }

        /** The bits to turn over in a key so that keys without sign, the lesser first, are in the order. */
        private static long turnedBits(int order) {
            switch (order) {
                case LESSER:
                    return SIGN;
                case GREATER:
                    return ~SIGN;
                default:
                    return 0;
            }
        }

        private static void arrangeByByte(Row row, Row spare, int[] counts, long turned, int shift) {
            Arrays.fill(counts, 0);
            for (int i = 0; i < row.count; i++) {
                counts[byteOf(row.keys[i] ^ turned, shift)]++;
            }
            int before = 0;
            for (int value = 0; value < VALUES; value++) {
                int having = counts[value];
                counts[value] = before;
                before += having;
            }
            for (int i = 0; i < row.count; i++) {
                int value = byteOf(row.keys[i] ^ turned, shift);
                spare.take(counts[value], row, i);
                counts[value]++;
            }
            row.takeMany(0, spare, 0, row.count);
        }

        private static int byteOf(long bits, int shift) {
            return (int) (bits >>> shift) & (VALUES - 1);
        }
    }
}

import java.util.Arrays;

/** Where a learnt model errs (slices, gaps), and whether what it is asked has changed (drift, alarms). */
public final class SliceDrift {
    public static final int NONE = -1, UNKNOWN = -1000001, OUTSIDE = -1000002, STATE = -1000003, ROOM = -1000004;

    private static final int MOST_ROWS = 48;
    private static final int COLUMNS = 5;
    private static final int VALUES = 10;
    private static final int SORTS = 11;
    private static final int NO_VALUE = 10;
    private static final int END_OF_TIME = 1000;
    private static final int MOST_RANKED = 20;

    private final Rows rows = new Rows();
    private final SliceList list = new SliceList();
    private final Ranks ranks = new Ranks();
    private final Alarms alarms = new Alarms();

    public SliceDrift() {
    }

    public int row(int time, boolean hit) {
        if (!isWithin(time, 0, END_OF_TIME - 1)) {
            return OUTSIDE;
        }
        if (rows.size >= MOST_ROWS) {
            return ROOM;
        }
        return rows.add(time, hit);
    }

    public int put(int row, int column, int value) {
        if (!rows.has(row) || !isColumn(column)) {
            return UNKNOWN;
        }
        if (!isWithin(value, NONE, VALUES - 1)) {
            return OUTSIDE;
        }
        return rows.change(row, column, value == NONE ? NO_VALUE : value);
    }

    public int of(int row, int what) {
        if (!rows.has(row) || !isWithin(what, 0, 6)) {
            return UNKNOWN;
        }
        if (what == 5) {
            return rows.times[row];
        }
        if (what == 6) {
            return asNumber((rows.hits & 1L << row) != 0);
        }
        return rows.sortAt(row, what);
    }

    // ---- slices

    public int slices(int least, int deep) {
        if (!isWithin(least, 1, MOST_ROWS) || !isWithin(deep, 1, 2)) {
            return OUTSIDE;
        }
        list.make(rows, least, deep == 2);
        return list.size;
    }

    public int slice(int i, int what) {
        if (!list.has(i)) {
            return UNKNOWN;
        }
        switch (what) {
            case 0: return columnOf(list.firsts[i]);
            case 1: return sortOf(list.firsts[i]);
            case 2: return columnOf(list.seconds[i]);
            case 3: return sortOf(list.seconds[i]);
            case 4: return Long.bitCount(list.members[i]);
            case 5: return Long.bitCount(list.members[i] & list.hits);
            default: return UNKNOWN;
        }
    }

    public int member(int i, int k) {
        if (!list.has(i)) {
            return UNKNOWN;
        }
        if (k < 0) {
            return OUTSIDE;
        }
        int left = k;
        for (int row = 0; row < MOST_ROWS; row++) {
            if ((list.members[i] & 1L << row) != 0) {
                if (left == 0) {
                    return row;
                }
                left--;
            }
        }
        return NONE;
    }

    public long share(int i, int side, int part) {
        if (!list.has(i)) {
            return UNKNOWN;
        }
        if (!isWithin(side, 0, 1) || !isPart(part)) {
            return OUTSIDE;
        }
        int have = Long.bitCount(list.members[i]);
        int hits = Long.bitCount(list.members[i] & list.hits);
        return side == 0 ? lowest(hits, have, part) : lowest(boundAbove(hits), boundBelow(have), part);
    }

    public long gap(int column, int sort, int other, int part) throws ArithmeticException {
        if (!isColumn(column)) {
            return UNKNOWN;
        }
        if (!isSort(sort) || !isSort(other) || !isPart(part)) {
            return OUTSIDE;
        }
        long here = rows.withSort(column, sort);
        long there = rows.withSort(column, other);
        if (here == 0 || there == 0) {
            throw new ArithmeticException("no rows of a sort");
        }
        int hereRows = Long.bitCount(here);
        int thereRows = Long.bitCount(there);
        int hereHits = Long.bitCount(here & rows.hits);
        int thereHits = Long.bitCount(there & rows.hits);
        return lowest(hereHits * thereRows - thereHits * hereRows, hereRows * thereRows, part);
    }

    // ---- drift

    public int window(int from, int to) {
        if (!areTimes(from, from, to)) {
            return OUTSIDE;
        }
        return Long.bitCount(rows.between(from, to));
    }

    public long drift(int column, int from, int middle, int to, int part) throws ArithmeticException {
        if (!isColumn(column)) {
            return UNKNOWN;
        }
        if (!areTimes(from, middle, to) || !isPart(part)) {
            return OUTSIDE;
        }
        long first = rows.between(from, middle);
        long second = rows.between(middle, to);
        if (first == 0 || second == 0) {
            throw new ArithmeticException("a window has no rows");
        }
        return lowest(rows.driftAbove(column, first, second), driftBelow(first, second), part);
    }

    public int rise(int column, int from, int middle, int to) {
        if (!isColumn(column)) {
            return UNKNOWN;
        }
        if (!areTimes(from, middle, to)) {
            return OUTSIDE;
        }
        ranks.take(rows, column, rows.between(from, middle), rows.between(middle, to));
        return ranks.risen();
    }

    public long odds(int column, int from, int middle, int to, int part) {
        if (!isColumn(column)) {
            return UNKNOWN;
        }
        if (!areTimes(from, middle, to) || !isPart(part)) {
            return OUTSIDE;
        }
        ranks.take(rows, column, rows.between(from, middle), rows.between(middle, to));
        int together = ranks.firstRows + ranks.secondRows;
        if (together > MOST_RANKED) {
            return STATE;
        }
        return lowest(ranks.waysToRise(ranks.risen()), waysToChoose(together, ranks.firstRows), part);
    }

    public int fresh(int column, int from, int middle, int to, int i) {
        if (!isColumn(column)) {
            return UNKNOWN;
        }
        if (!areTimes(from, middle, to) || i < NONE) {
            return OUTSIDE;
        }
        long first = rows.between(from, middle);
        long second = rows.between(middle, to);
        int found = 0;
        for (int value = 0; value < VALUES; value++) {
            long having = rows.withSort(column, value);
            if ((having & first) == 0 && (having & second) != 0) {
                if (found == i) {
                    return value;
                }
                found++;
            }
        }
        return i == NONE ? found : NONE;
    }

    public long shift(int label, int guess, int from, int middle, int to, int part) throws ArithmeticException {
        if (!isColumn(label) || !isColumn(guess) || label == guess) {
            return UNKNOWN;
        }
        if (!areTimes(from, middle, to) || !isPart(part)) {
            return OUTSIDE;
        }
        long first = rows.between(from, middle);
        long yes = rows.withSort(guess, 1);
        long asked = yes | rows.withSort(guess, 0);
        // q asks for the guess alone, so a row counts there whatever its label is
        long ofYes = first & asked & rows.withSort(label, 1);
        long ofNo = first & asked & rows.withSort(label, 0);
        long later = asked & rows.between(middle, to);
        if (ofYes == 0 || ofNo == 0 || later == 0) {
            throw new ArithmeticException("a share has no rows");
        }
        int yesRows = Long.bitCount(ofYes);
        int noRows = Long.bitCount(ofNo);
        int laterRows = Long.bitCount(later);
        int falseYes = Long.bitCount(ofNo & yes);
        int apart = Long.bitCount(ofYes & yes) * noRows - falseYes * yesRows;
        if (apart == 0) {
            return STATE;
        }
        int moved = Long.bitCount(later & yes) * noRows - falseYes * laterRows;
        return lowest(moved * yesRows, apart * laterRows, part);
    }

    public int order(int from, int middle, int to, int i) throws ArithmeticException {
        if (!isColumn(i)) {
            return UNKNOWN;
        }
        if (!areTimes(from, middle, to)) {
            return OUTSIDE;
        }
        long first = rows.between(from, middle);
        long second = rows.between(middle, to);
        if (first == 0 || second == 0) {
            throw new ArithmeticException("a window has no rows");
        }
        for (int column = 0; column < COLUMNS; column++) {
            if (rows.placeByDrift(column, first, second) == i) {
                return column;
            }
        }
        return NONE;
    }

    // ---- alarms

    public int watch(int column, int base, int step, int hold, int limit) {
        if (!isColumn(column)) {
            return UNKNOWN;
        }
        if (!isWithin(base, 1, END_OF_TIME - 1) || !isWithin(step, 1, END_OF_TIME - 1)
                || !isWithin(hold, 1, 100) || !isWithin(limit, 1, 1000)) {
            return OUTSIDE;
        }
        if (rows.between(0, base) == 0) {
            return STATE;
        }
        alarms.begin(base, step);
        alarms.measure(rows, column, limit);
        return alarms.raise(hold);
    }

    public int step(int k, int what) {
        if (!isWithin(k, 0, alarms.size - 1)) {
            return UNKNOWN;
        }
        switch (what) {
            case 0: return asNumber(alarms.up[k]);
            case 1: return asNumber(alarms.off[k]);
            case 2: return alarms.stepRows[k];
            case 3: return alarms.beginOf(k);
            default: return UNKNOWN;
        }
    }

    public int count(int what) {
        switch (what) {
            case 0: return rows.size;
            case 1: return Long.bitCount(rows.hits);
            case 2: return list.size;
            case 3: return alarms.size;
            case 4: return alarms.begun;
            case 5: return Long.bitCount(rows.lackingSome());
            default: return UNKNOWN;
        }
    }

    private static boolean isWithin(int number, int least, int most) {
        return number >= least && number <= most;
    }

    private static boolean isColumn(int column) {
        return isWithin(column, 0, COLUMNS - 1);
    }

    private static boolean isSort(int sort) {
        return isWithin(sort, 0, SORTS - 1);
    }

    private static boolean isPart(int part) {
        return isWithin(part, 0, 1);
    }

    private static boolean areTimes(int from, int middle, int to) {
        return 0 <= from && from <= middle && middle <= to && to <= END_OF_TIME;
    }

    private static int asNumber(boolean holds) {
        return holds ? 1 : 0;
    }

    private static int conditionOf(int column, int sort) {
        return column * SORTS + sort;
    }

    private static int columnOf(int condition) {
        return condition == NONE ? NONE : condition / SORTS;
    }

    private static int sortOf(int condition) {
        return condition == NONE ? NONE : condition % SORTS;
    }

    private static int boundAbove(int hits) {
        return hits + 2;
    }

    private static int boundBelow(int have) {
        return have + 4;
    }

    private static int driftBelow(long first, long second) {
        return 2 * Long.bitCount(first) * Long.bitCount(second);
    }

    /** A PART of above / below; below is not 0, but may bear the sign. */
    private static long lowest(long above, long below, int part) {
        long divisor = commonDivisor(Math.abs(above), Math.abs(below));
        if (part == 1) {
            return Math.abs(below) / divisor;
        }
        return (below < 0 ? -above : above) / divisor;
    }

    /** At least 1, so that it can always divide. */
    private static long commonDivisor(long one, long other) {
        long large = one;
        long small = other;
        // Euclid's rest halves every second turn: 128 turns are more than a long needs
        for (int turn = 0; turn < 128 && small != 0; turn++) {
            long rest = large % small;
            large = small;
            small = rest;
        }
        return Math.max(1, large);
    }

    private static int waysToChoose(int of, int chosen) {
        int ways = 1;
        for (int i = 1; i <= chosen; i++) {
            ways = ways * (of - chosen + i) / i;
        }
        return ways;
    }

    /** The rows; a set of rows is a long, bit n standing for row n. */
    private static final class Rows {
        private int size = 0;
        private long hits = 0;
        private final int[] times = new int[MOST_ROWS];
        private final long[] having = new long[COLUMNS * SORTS];

        boolean has(int row) {
            return isWithin(row, 0, size - 1);
        }

        int add(int time, boolean hit) {
            int row = size;
            times[row] = time;
            if (hit) {
                hits |= 1L << row;
            }
            for (int column = 0; column < COLUMNS; column++) {
                having[conditionOf(column, NO_VALUE)] |= 1L << row;
            }
            size++;
            return row;
        }

        int change(int row, int column, int sort) {
            int before = sortAt(row, column);
            having[conditionOf(column, before)] &= ~(1L << row);
            having[conditionOf(column, sort)] |= 1L << row;
            return before;
        }

        int sortAt(int row, int column) {
            for (int value = 0; value < VALUES; value++) {
                if ((withSort(column, value) & 1L << row) != 0) {
                    return value;
                }
            }
            return NO_VALUE;
        }

        long withSort(int column, int sort) {
            return having[conditionOf(column, sort)];
        }

        long between(int from, int to) {
            long set = 0;
            for (int row = 0; row < size; row++) {
                if (times[row] >= from && times[row] < to) {
                    set |= 1L << row;
                }
            }
            return set;
        }

        long lackingSome() {
            long set = 0;
            for (int column = 0; column < COLUMNS; column++) {
                set |= withSort(column, NO_VALUE);
            }
            return set;
        }

        /** What stands above in DRIFT, driftBelow standing below: the same below for all columns. */
        int driftAbove(int column, long first, long second) {
            int firstRows = Long.bitCount(first);
            int secondRows = Long.bitCount(second);
            int sum = 0;
            for (int sort = 0; sort < SORTS; sort++) {
                long set = withSort(column, sort);
                sum += Math.abs(Long.bitCount(set & first) * secondRows - Long.bitCount(set & second) * firstRows);
            }
            return sum;
        }

        int placeByDrift(int column, long first, long second) {
            int own = driftAbove(column, first, second);
            int ahead = 0;
            for (int other = 0; other < COLUMNS; other++) {
                int theirs = driftAbove(other, first, second);
                if (theirs > own || theirs == own && other < column) {
                    ahead++;
                }
            }
            return ahead;
        }
    }

    /** THE LIST, kept as it was made: rows change their values later, but never whether they are hits. */
    private static final class SliceList {
        /** All of one condition; of each two columns no more than there are rows, as none is empty. */
        private static final int MOST_SLICES = COLUMNS * SORTS + COLUMNS * (COLUMNS - 1) / 2 * MOST_ROWS;

        private int size = 0;
        private long hits = 0;
        private final long[] members = new long[MOST_SLICES];
        private final int[] firsts = new int[MOST_SLICES];
        private final int[] seconds = new int[MOST_SLICES];

        boolean has(int i) {
            return isWithin(i, 0, size - 1);
        }

        /** Slices are met in the order that is due among those of like bound and rows. */
        void make(Rows rows, int least, boolean ofTwo) {
            size = 0;
            hits = rows.hits;
            for (int first = 0; first < COLUMNS * SORTS; first++) {
                long set = rows.having[first];
                if (Long.bitCount(set) >= least) {
                    insert(set, first, NONE);
                    if (ofTwo) {
                        insertPairs(rows, least, first);
                    }
                }
            }
        }

        private void insertPairs(Rows rows, int least, int first) {
            long alone = rows.having[first];
            for (int second = conditionOf(columnOf(first) + 1, 0); second < COLUMNS * SORTS; second++) {
                long other = rows.having[second];
                long both = alone & other;
                if (Long.bitCount(both) >= least && both != alone && both != other) {
                    insert(both, first, second);
                }
            }
        }

        private void insert(long set, int first, int second) {
            if (size >= MOST_SLICES) {
                return;
            }
            int at = placeFor(set);
            System.arraycopy(members, at, members, at + 1, size - at);
            System.arraycopy(firsts, at, firsts, at + 1, size - at);
            System.arraycopy(seconds, at, seconds, at + 1, size - at);
            members[at] = set;
            firsts[at] = first;
            seconds[at] = second;
            size++;
        }

        /** Behind all that are like it, so that these stay in the order in which they are met. */
        private int placeFor(long set) {
            int low = 0;
            int high = size;
            for (int turn = 0; turn < MOST_SLICES && low < high; turn++) {
                int middle = (low + high) / 2;
                if (isAhead(set, members[middle])) {
                    high = middle;
                } else {
                    low = middle + 1;
                }
            }
            return low;
        }

        private boolean isAhead(long one, long other) {
            int oneRows = Long.bitCount(one);
            int otherRows = Long.bitCount(other);
            int oneBound = boundAbove(Long.bitCount(one & hits)) * boundBelow(otherRows);
            int otherBound = boundAbove(Long.bitCount(other & hits)) * boundBelow(oneRows);
            return oneBound < otherBound || oneBound == otherBound && oneRows > otherRows;
        }
    }

    /** How many rows of two windows have each value of a column, and the exact test on these. */
    private static final class Ranks {
        /** Pairs are most if half of the rows are in either window; each gives 2 at most. */
        private static final int MOST_RISE = 2 * (MOST_RANKED / 2) * (MOST_RANKED / 2);
        private static final int WIDTH = MOST_RISE + 1;

        private int firstRows = 0;
        private int secondRows = 0;
        private final int[] firsts = new int[VALUES];
        private final int[] seconds = new int[VALUES];
        /** At chosen * WIDTH + rise: in how many ways so many of the rows seen are chosen with that rise. */
        private final int[] ways = new int[(MOST_RANKED + 1) * WIDTH];

        void take(Rows rows, int column, long first, long second) {
            firstRows = 0;
            secondRows = 0;
            for (int value = 0; value < VALUES; value++) {
                firsts[value] = Long.bitCount(rows.withSort(column, value) & first);
                seconds[value] = Long.bitCount(rows.withSort(column, value) & second);
                firstRows += firsts[value];
                secondRows += seconds[value];
            }
        }

        int risen() {
            int below = 0;
            int sum = 0;
            for (int value = 0; value < VALUES; value++) {
                sum += seconds[value] * (2 * below + firsts[value]);
                below += firsts[value];
            }
            return sum;
        }

        /** In how many ways to choose the first window's rows the rise is not less; 0 for too many rows. */
        int waysToRise(int least) {
            if (firstRows + secondRows > MOST_RANKED) {
                return 0;
            }
            Arrays.fill(ways, 0);
            ways[0] = 1;
            int seen = 0;
            for (int value = 0; value < VALUES; value++) {
                int group = firsts[value] + seconds[value];
                addGroup(seen, group);
                seen += group;
            }
            int sum = 0;
            for (int rise = Math.max(0, least); rise <= MOST_RISE; rise++) {
                sum += ways[firstRows * WIDTH + rise];
            }
            return sum;
        }

        /** Both counters fall, for what is moved goes to more chosen, or as many and no less rise. */
        private void addGroup(int seen, int group) {
            for (int chosen = Math.min(seen, firstRows); chosen >= 0; chosen--) {
                for (int rise = 2 * chosen * (seen - chosen); rise >= 0; rise--) {
                    moveWays(chosen, rise, group);
                }
            }
        }

        private void moveWays(int chosen, int rise, int group) {
            int from = chosen * WIDTH + rise;
            int moved = ways[from];
            if (moved == 0) {
                return;
            }
            ways[from] = 0;
            for (int more = 0; more <= group && chosen + more <= firstRows; more++) {
                // the group's others stand above all chosen before, and like the group's chosen
                int next = rise + (group - more) * (2 * chosen + more);
                if (next <= MOST_RISE) {
                    ways[(chosen + more) * WIDTH + next] += moved * waysToChoose(group, more);
                }
            }
        }
    }

    /** The steps of the latest watch, as they were when it was made. */
    private static final class Alarms {
        private static final int MOST_STEPS = 100;

        private int base = 0;
        private int length = 1;
        private int size = 0;
        private int begun = 0;
        private final int[] stepRows = new int[MOST_STEPS];
        private final boolean[] off = new boolean[MOST_STEPS];
        private final boolean[] up = new boolean[MOST_STEPS];

        void begin(int from, int step) {
            base = from;
            length = step;
            size = 0;
            for (int k = 0; k < MOST_STEPS && beginOf(k) < END_OF_TIME; k++) {
                size++;
            }
        }

        int beginOf(int k) {
            return base + k * length;
        }

        void measure(Rows rows, int column, int limit) {
            long first = rows.between(0, base);
            for (int k = 0; k < size; k++) {
                long second = rows.between(beginOf(k), Math.min(beginOf(k + 1), END_OF_TIME));
                stepRows[k] = Long.bitCount(second);
                off[k] = second != 0
                        && 1000 * rows.driftAbove(column, first, second) >= limit * driftBelow(first, second);
            }
        }

        /** In how many steps an alarm is up. */
        int raise(int hold) {
            boolean alarm = false;
            int calm = 0;
            int ups = 0;
            begun = 0;
            for (int k = 0; k < size; k++) {
                if (off[k]) {
                    begun += alarm ? 0 : 1;
                    alarm = true;
                    calm = 0;
                } else if (stepRows[k] > 0) {
                    calm++;
                    alarm = alarm && calm < hold;
                }
                up[k] = alarm;
                ups += alarm ? 1 : 0;
            }
            return ups;
        }
    }
}

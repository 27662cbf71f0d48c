import java.math.BigInteger;
import java.util.ArrayList;
import java.util.List;

/** The document in plain words; the order of refusals is written out call by call. */
final class Model {
    static final int NONE = -1, UNKNOWN = -1000001, OUTSIDE = -1000002, STATE = -1000003, ROOM = -1000004;
    final List<Row> rows = new ArrayList<>();
    List<Slice> list = new ArrayList<>();
    List<int[]> steps = new ArrayList<>();
    int begun = 0;

    private static boolean in(int x, int least, int most) {
        return least <= x && x <= most;
    }

    private static boolean times(int a, int b, int c) {
        return in(a, 0, 1000) && in(b, a, 1000) && in(c, b, 1000);
    }

    int row(int time, boolean hit) {
        if (!in(time, 0, 999)) return OUTSIDE;
        if (rows.size() == 48) return ROOM;
        rows.add(new Row(rows.size(), time, hit));
        return rows.size() - 1;
    }

    int put(int row, int column, int value) {
        if (!in(row, 0, rows.size() - 1) || !in(column, 0, 4)) return UNKNOWN;
        if (!in(value, -1, 9)) return OUTSIDE;
        int before = rows.get(row).sorts[column];
        rows.get(row).sorts[column] = value < 0 ? 10 : value;
        return before;
    }

    int of(int row, int what) {
        if (!in(row, 0, rows.size() - 1) || !in(what, 0, 6)) return UNKNOWN;
        Row r = rows.get(row);
        return what < 5 ? r.sorts[what] : what == 5 ? r.time : r.hit ? 1 : 0;
    }

    private List<Row> having(List<Row> among, int column, int sort) {
        List<Row> found = new ArrayList<>();
        for (Row r : among) if (r.sorts[column] == sort) found.add(r);
        return found;
    }

    private static int hits(List<Row> among) {
        int hits = 0;
        for (Row r : among) if (r.hit) hits++;
        return hits;
    }

    int slices(int least, int deep) {
        if (!in(least, 1, 48) || !in(deep, 1, 2)) return OUTSIDE;
        list = new ArrayList<>();
        for (int c = 0; c < 5; c++) for (int s = 0; s < 11; s++) {
            List<Row> one = having(rows, c, s);
            judge(one, least, c, s, NONE, NONE);
            for (int d = c + 1; d < 5 && deep == 2; d++) for (int t = 0; t < 11; t++) {
                List<Row> two = having(one, d, t);
                boolean same = two.equals(one) || two.equals(having(rows, d, t));
                if (!same) judge(two, least, c, s, d, t);
            }
        }
        list.sort(null);
        return list.size();
    }

    private void judge(List<Row> found, int least, int... place) {
        if (found.size() < least) return;
        Slice slice = new Slice();
        slice.place = place;
        slice.rows = found;
        slice.hits = hits(found);
        list.add(slice);
    }

    int slice(int i, int what) {
        if (!in(i, 0, list.size() - 1) || !in(what, 0, 5)) return UNKNOWN;
        Slice s = list.get(i);
        return what < 4 ? s.place[what] : what == 4 ? s.rows.size() : s.hits;
    }

    int member(int i, int k) {
        if (!in(i, 0, list.size() - 1)) return UNKNOWN;
        if (k < 0) return OUTSIDE;
        List<Row> found = list.get(i).rows;
        return k < found.size() ? found.get(k).number : NONE;
    }

    long share(int i, int side, int part) {
        if (!in(i, 0, list.size() - 1)) return UNKNOWN;
        if (!in(side, 0, 1) || !in(part, 0, 1)) return OUTSIDE;
        Slice s = list.get(i);
        return (side == 0 ? Share.of(s.hits, s.rows.size()) : s.bound()).part(part);
    }

    long gap(int column, int sort, int other, int part) {
        if (!in(column, 0, 4)) return UNKNOWN;
        if (!in(sort, 0, 10) || !in(other, 0, 10) || !in(part, 0, 1)) return OUTSIDE;
        List<Row> a = having(rows, column, sort), b = having(rows, column, other);
        if (a.isEmpty() || b.isEmpty()) throw new ArithmeticException();
        return Share.of(hits(a), a.size()).minus(Share.of(hits(b), b.size())).part(part);
    }

    private List<Row> windowOf(int from, int to) {
        List<Row> found = new ArrayList<>();
        for (Row r : rows) if (from <= r.time && r.time < to) found.add(r);
        return found;
    }

    int window(int from, int to) {
        return times(from, from, to) ? windowOf(from, to).size() : OUTSIDE;
    }

    private Share driftOf(int column, List<Row> a, List<Row> b) {
        if (a.isEmpty() || b.isEmpty()) throw new ArithmeticException();
        Share sum = Share.of(0, 1);
        for (int s = 0; s <= 10; s++) {
            Share first = Share.of(having(a, column, s).size(), a.size());
            Share second = Share.of(having(b, column, s).size(), b.size());
            sum = sum.plus(first.minus(second).size());
        }
        return sum.by(Share.of(2, 1));
    }

    long drift(int column, int from, int middle, int to, int part) {
        if (!in(column, 0, 4)) return UNKNOWN;
        if (!times(from, middle, to) || !in(part, 0, 1)) return OUTSIDE;
        return driftOf(column, windowOf(from, middle), windowOf(middle, to)).part(part);
    }

    private List<Integer> valuesOf(int column, int from, int to) {
        List<Integer> found = new ArrayList<>();
        for (Row r : windowOf(from, to)) if (r.sorts[column] != 10) found.add(r.sorts[column]);
        return found;
    }

    private static int riseOf(List<Integer> first, List<Integer> second) {
        int sum = 0;
        for (int a : first) for (int b : second) sum += b > a ? 2 : b == a ? 1 : 0;
        return sum;
    }

    int rise(int column, int from, int middle, int to) {
        if (!in(column, 0, 4)) return UNKNOWN;
        if (!times(from, middle, to)) return OUTSIDE;
        return riseOf(valuesOf(column, from, middle), valuesOf(column, middle, to));
    }

    long odds(int column, int from, int middle, int to, int part) {
        if (!in(column, 0, 4)) return UNKNOWN;
        if (!times(from, middle, to) || !in(part, 0, 1)) return OUTSIDE;
        List<Integer> first = valuesOf(column, from, middle), all = valuesOf(column, from, to);
        List<Integer> second = valuesOf(column, middle, to);
        if (all.size() > 20) return STATE;
        int n = all.size(), need = riseOf(first, second);
        int[] v = new int[n];
        for (int i = 0; i < n; i++) v[i] = all.get(i);
        long ways = 0, good = 0;
        for (int set = 0; set < 1 << n; set++) {
            if (Integer.bitCount(set) != first.size()) continue;
            ways++;
            int rise = 0;
            for (int i = 0; i < n; i++) for (int j = 0; j < n; j++) {
                if ((set >> i & 1) == 1 && (set >> j & 1) == 0) rise += v[j] > v[i] ? 2 : v[j] == v[i] ? 1 : 0;
            }
            if (rise >= need) good++;
        }
        return Share.of(good, ways).part(part);
    }

    int fresh(int column, int from, int middle, int to, int i) {
        if (!in(column, 0, 4)) return UNKNOWN;
        if (!times(from, middle, to) || i < -1) return OUTSIDE;
        List<Integer> found = new ArrayList<>();
        for (int v = 0; v <= 9; v++) {
            boolean later = valuesOf(column, middle, to).contains(v);
            if (later && !valuesOf(column, from, middle).contains(v)) found.add(v);
        }
        return i == -1 ? found.size() : i < found.size() ? found.get(i) : NONE;
    }

    private Share yes(List<Row> among, int guess) {
        int yes = having(among, guess, 1).size(), no = having(among, guess, 0).size();
        if (yes + no == 0) throw new ArithmeticException();
        return Share.of(yes, yes + no);
    }

    long shift(int label, int guess, int from, int middle, int to, int part) {
        if (!in(label, 0, 4) || !in(guess, 0, 4) || label == guess) return UNKNOWN;
        if (!times(from, middle, to) || !in(part, 0, 1)) return OUTSIDE;
        Share t = yes(having(windowOf(from, middle), label, 1), guess);
        Share f = yes(having(windowOf(from, middle), label, 0), guess);
        Share q = yes(windowOf(middle, to), guess);
        if (t.compareTo(f) == 0) return STATE;
        return q.minus(f).by(t.minus(f)).part(part);
    }

    int order(int from, int middle, int to, int i) {
        if (!in(i, 0, 4)) return UNKNOWN;
        if (!times(from, middle, to)) return OUTSIDE;
        List<Row> a = windowOf(from, middle), b = windowOf(middle, to);
        List<Integer> columns = new ArrayList<>(List.of(0, 1, 2, 3, 4));
        columns.sort((c, d) -> driftOf(d, a, b).compareTo(driftOf(c, a, b)));
        return columns.get(i);
    }

    /** An alarm is up, if since the latest step that was off fewer than HOLD were calm. */
    int watch(int column, int base, int step, int hold, int limit) {
        if (!in(column, 0, 4)) return UNKNOWN;
        if (!in(base, 1, 999) || !in(step, 1, 999) || !in(hold, 1, 100) || !in(limit, 1, 1000)) return OUTSIDE;
        List<Row> first = windowOf(0, base);
        if (first.isEmpty()) return STATE;
        steps = new ArrayList<>();
        for (int at = base; at < 1000 && steps.size() < 100; at += step) {
            List<Row> then = windowOf(at, Math.min(1000, at + step));
            boolean off = !then.isEmpty() && driftOf(column, first, then).compareTo(Share.of(limit, 1000)) >= 0;
            steps.add(new int[] {0, off ? 1 : 0, then.size(), at});
        }
        begun = 0;
        int ups = 0;
        for (int k = 0; k < steps.size(); k++) {
            int calm = 0, back = k;
            while (back >= 0 && steps.get(back)[1] == 0) calm += steps.get(back--)[2] > 0 ? 1 : 0;
            steps.get(k)[0] = back >= 0 && calm < hold ? 1 : 0;
            ups += steps.get(k)[0];
            if (steps.get(k)[0] == 1 && (k == 0 || steps.get(k - 1)[0] == 0)) begun++;
        }
        return ups;
    }

    int step(int k, int what) {
        return in(k, 0, steps.size() - 1) && in(what, 0, 3) ? steps.get(k)[what] : UNKNOWN;
    }

    int count(int what) {
        switch (what) {
            case 0: return rows.size();
            case 1: return hits(rows);
            case 2: return list.size();
            case 3: return steps.size();
            case 4: return begun;
            case 5: {
                int lacking = 0;
                for (Row r : rows) {
                    boolean some = false;
                    for (int s : r.sorts) some |= s == 10;
                    if (some) lacking++;
                }
                return lacking;
            }
            default: return UNKNOWN;
        }
    }

    /** A fraction of any size. */
    static final class Share implements Comparable<Share> {
        final BigInteger above;
        final BigInteger below;

        Share(BigInteger above, BigInteger below) {
            BigInteger divisor = above.gcd(below).multiply(BigInteger.valueOf(below.signum()));
            this.above = above.divide(divisor);
            this.below = below.divide(divisor);
        }

        static Share of(long above, long below) {
            return new Share(BigInteger.valueOf(above), BigInteger.valueOf(below));
        }

        Share plus(Share other) {
            return new Share(above.multiply(other.below).add(other.above.multiply(below)), below.multiply(other.below));
        }

        Share minus(Share other) {
            return plus(new Share(other.above.negate(), other.below));
        }

        Share by(Share other) {
            return new Share(above.multiply(other.below), below.multiply(other.above));
        }

        Share size() {
            return new Share(above.abs(), below);
        }

        public int compareTo(Share other) {
            return above.multiply(other.below).compareTo(other.above.multiply(below));
        }

        long part(int part) {
            return (part == 0 ? above : below).longValueExact();
        }
    }

    static final class Row {
        final int number;
        final int time;
        final boolean hit;
        final int[] sorts = {10, 10, 10, 10, 10};

        Row(int number, int time, boolean hit) {
            this.number = number;
            this.time = time;
            this.hit = hit;
        }
    }

    static final class Slice implements Comparable<Slice> {
        int[] place;
        List<Row> rows;
        int hits;

        Share bound() {
            return Share.of(hits + 2, rows.size() + 4);
        }

        public int compareTo(Slice other) {
            int order = bound().compareTo(other.bound());
            if (order == 0) order = Integer.compare(other.rows.size(), rows.size());
            // NONE is below every column, so that a slice of one condition is ahead
            for (int i = 0; i < 4 && order == 0; i++) order = Integer.compare(place[i], other.place[i]);
            return order;
        }
    }
}

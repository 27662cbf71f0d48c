import java.math.BigInteger;
import java.util.ArrayList;
import java.util.List;
import java.util.Random;

/** Long runs of calls, right and wrong, against a second program that follows the document word by word. */
public final class ModelTest {
    private static final int RUNS = 700;
    private static final int CALLS = 512;

    public static void main(String[] args) {
        Check check = new Check();
        for (int run = 0; run < RUNS; run++) {
            check.begin("run " + run);
            new Run(new Random(9000 + run), check).play();
        }
        check.end();
    }

    /** One object, its model, and a source of calls whose seed is written down. */
    private static final class Run {
        private final SliceDrift subject = new SliceDrift();
        private final Model model = new Model();
        private final Random random;
        private final Check check;
        private final int values;
        private final int times;
        private final int few;

        Run(Random random, Check check) {
            this.random = random;
            this.check = check;
            values = 1 + random.nextInt(10);
            times = new int[] {6, 12, 40, 1000}[random.nextInt(4)];
            few = random.nextInt(3) == 0 ? 100 : 20;
        }

        void play() {
            for (int call = 0; call < CALLS; call++) {
                boolean filling = call < 300 && random.nextInt(3) != 0;
                one(filling ? (random.nextInt(4) == 0 ? 0 : 1) : random.nextInt(18));
            }
            everyStored();
        }

        private void one(int kind) {
            int a = column(), from = time(), middle = from + time() / 2, to = middle + time();
            int b = column(), part = near(0, 1), i = near(0, 5);
            switch (kind) {
                case 0: {
                    if (model.rows.size() >= few && random.nextInt(10) != 0) return;
                    int t = random.nextInt(30) == 0 ? odd() : random.nextInt(times);
                    boolean hit = random.nextBoolean();
                    same("row " + t + " " + hit, () -> model.row(t, hit), () -> subject.row(t, hit));
                    return;
                }
                case 1: {
                    int row = near(0, Math.max(0, model.rows.size() - 1)), value = near(-1, values - 1);
                    same("put " + row + " " + a + " " + value,
                        () -> model.put(row, a, value), () -> subject.put(row, a, value));
                    return;
                }
                case 2: {
                    int row = near(0, Math.max(0, model.rows.size() - 1)), what = near(0, 6);
                    same("of " + row + " " + what, () -> model.of(row, what), () -> subject.of(row, what));
                    return;
                }
                case 3: {
                    int least = random.nextInt(3) == 0 ? near(1, 48) : near(1, 4), deep = near(1, 2);
                    same("slices " + least + " " + deep,
                        () -> model.slices(least, deep), () -> subject.slices(least, deep));
                    return;
                }
                case 4: {
                    int at = near(0, Math.max(0, model.list.size() - 1)), what = near(0, 5);
                    same("slice " + at + " " + what, () -> model.slice(at, what), () -> subject.slice(at, what));
                    return;
                }
                case 5: {
                    int at = near(0, Math.max(0, model.list.size() - 1)), k = near(0, 6);
                    same("member " + at + " " + k, () -> model.member(at, k), () -> subject.member(at, k));
                    return;
                }
                case 6: {
                    int at = near(0, Math.max(0, model.list.size() - 1)), side = near(0, 1);
                    same("share " + at + " " + side + " " + part,
                        () -> model.share(at, side, part), () -> subject.share(at, side, part));
                    return;
                }
                case 7: {
                    int sort = random.nextInt(4) == 0 ? near(0, 10) : near(0, values - 1), other = near(0, 10);
                    same("gap " + a + " " + sort + " " + other + " " + part,
                        () -> model.gap(a, sort, other, part), () -> subject.gap(a, sort, other, part));
                    return;
                }
                case 8: {
                    same("window " + from + " " + to, () -> model.window(from, to), () -> subject.window(from, to));
                    return;
                }
                case 9: {
                    same("drift " + told(a, from, middle, to, part),
                        () -> model.drift(a, from, middle, to, part), () -> subject.drift(a, from, middle, to, part));
                    return;
                }
                case 10: {
                    same("rise " + told(a, from, middle, to, 0),
                        () -> model.rise(a, from, middle, to), () -> subject.rise(a, from, middle, to));
                    return;
                }
                case 11: {
                    same("odds " + told(a, from, middle, to, part),
                        () -> model.odds(a, from, middle, to, part), () -> subject.odds(a, from, middle, to, part));
                    return;
                }
                case 12: {
                    int at = near(-1, 3);
                    same("fresh " + told(a, from, middle, to, at),
                        () -> model.fresh(a, from, middle, to, at), () -> subject.fresh(a, from, middle, to, at));
                    return;
                }
                case 13: {
                    same("shift " + a + " " + told(b, from, middle, to, part),
                        () -> model.shift(a, b, from, middle, to, part),
                        () -> subject.shift(a, b, from, middle, to, part));
                    return;
                }
                case 14: {
                    int at = near(0, 4);
                    same("order " + told(at, from, middle, to, 0),
                        () -> model.order(from, middle, to, at), () -> subject.order(from, middle, to, at));
                    return;
                }
                case 15: {
                    int base = random.nextInt(5) == 0 ? near(1, 999) : near(1, times / 2);
                    int step = random.nextInt(5) == 0 ? near(1, 999) : near(1, Math.max(1, times / 8));
                    int hold = random.nextInt(5) == 0 ? near(1, 100) : near(1, 4);
                    int limit = random.nextInt(3) == 0 ? near(1, 1000) : 50 * near(1, 20);
                    same("watch " + told(a, base, step, hold, limit),
                        () -> model.watch(a, base, step, hold, limit), () -> subject.watch(a, base, step, hold, limit));
                    return;
                }
                case 16: {
                    int k = near(0, 99), what = near(0, 3);
                    same("step " + k + " " + what, () -> model.step(k, what), () -> subject.step(k, what));
                    return;
                }
                default: {
                    same("count " + i, () -> model.count(i), () -> subject.count(i));
                }
            }
        }

        /** All that the last slices and watch left behind; beyond the 512 calls only our own class need answer. */
        private void everyStored() {
            for (int i = 0; i <= model.list.size(); i++) {
                int at = i;
                for (int w = 0; w < 6; w++) {
                    int what = w;
                    same("last slice " + at + " " + what, () -> model.slice(at, what), () -> subject.slice(at, what));
                    same("last share " + at + " " + what, () -> model.share(at, what / 2, what % 2),
                        () -> subject.share(at, what / 2, what % 2));
                }
                for (int m = -1; m < 6; m++) {
                    int k = m;
                    same("last member " + at + " " + k, () -> model.member(at, k), () -> subject.member(at, k));
                }
            }
            for (int s = -1; s <= 100; s++) {
                int k = s;
                for (int w = -1; w <= 4; w++) {
                    int what = w;
                    same("last step " + k + " " + what, () -> model.step(k, what), () -> subject.step(k, what));
                }
            }
        }

        private void same(String call, Check.Call due, Check.Call got) {
            check.due(call, Check.answerOf(due), got);
        }

        private static String told(int a, int b, int c, int d, int e) {
            return a + " " + b + " " + c + " " + d + " " + e;
        }

        private int column() {
            return random.nextInt(25) == 0 ? odd() : random.nextInt(5);
        }

        private int time() {
            return random.nextInt(40) == 0 ? odd() : random.nextInt(times + 2);
        }

        /** Mostly one of least .. most, now and then one beside it or far off. */
        private int near(int least, int most) {
            int dice = random.nextInt(40);
            if (dice == 0) return most + 1;
            if (dice == 1) return least - 1;
            if (dice == 2) return odd();
            return least + random.nextInt(most - least + 1);
        }

        private int odd() {
            int[] odd = {-1, -2, 5, 10, 11, 47, 48, 99, 100, 999, 1000, 1001,
                Integer.MAX_VALUE, Integer.MIN_VALUE, -1000001};
            return odd[random.nextInt(odd.length)];
        }
    }

    /** A fraction of any size. */
    private static final class Share implements Comparable<Share> {
        final BigInteger above;
        final BigInteger below;

        Share(BigInteger above, BigInteger below) {
            BigInteger divisor = above.gcd(below).multiply(BigInteger.valueOf(below.signum()));
            this.above = above.divide(divisor);
            this.below = below.divide(divisor);
        }

        static Share of(long above, long below) {
            return new Share(BigInteger.valueOf(above), BigInteger.valueOf(below));
        }

        Share plus(Share other) {
            return new Share(above.multiply(other.below).add(other.above.multiply(below)), below.multiply(other.below));
        }

        Share minus(Share other) {
            return plus(new Share(other.above.negate(), other.below));
        }

        Share by(Share other) {
            return new Share(above.multiply(other.below), below.multiply(other.above));
        }

        Share size() {
            return new Share(above.abs(), below);
        }

        public int compareTo(Share other) {
            return above.multiply(other.below).compareTo(other.above.multiply(below));
        }

        long part(int part) {
            return (part == 0 ? above : below).longValueExact();
        }
    }

    private static final class Row {
        final int number;
        final int time;
        final boolean hit;
        final int[] sorts = {10, 10, 10, 10, 10};

        Row(int number, int time, boolean hit) {
            this.number = number;
            this.time = time;
            this.hit = hit;
        }
    }

    private static final class Slice implements Comparable<Slice> {
        int[] place;
        List<Row> rows;
        int hits;

        Share bound() {
            return Share.of(hits + 2, rows.size() + 4);
        }

        public int compareTo(Slice other) {
            int order = bound().compareTo(other.bound());
            if (order == 0) order = Integer.compare(other.rows.size(), rows.size());
            // NONE is below every column, so that a slice of one condition is ahead
            for (int i = 0; i < 4 && order == 0; i++) order = Integer.compare(place[i], other.place[i]);
            return order;
        }
    }

    /** The document in plain words; the order of refusals is written out call by call. */
    private static final class Model {
        static final int NONE = -1, UNKNOWN = -1000001, OUTSIDE = -1000002, STATE = -1000003, ROOM = -1000004;
        final List<Row> rows = new ArrayList<>();
        List<Slice> list = new ArrayList<>();
        List<int[]> steps = new ArrayList<>();
        int begun = 0;

        private static boolean in(int x, int least, int most) {
            return least <= x && x <= most;
        }

        private static boolean times(int a, int b, int c) {
            return in(a, 0, 1000) && in(b, a, 1000) && in(c, b, 1000);
        }

        int row(int time, boolean hit) {
            if (!in(time, 0, 999)) return OUTSIDE;
            if (rows.size() == 48) return ROOM;
            rows.add(new Row(rows.size(), time, hit));
            return rows.size() - 1;
        }

        int put(int row, int column, int value) {
            if (!in(row, 0, rows.size() - 1) || !in(column, 0, 4)) return UNKNOWN;
            if (!in(value, -1, 9)) return OUTSIDE;
            int before = rows.get(row).sorts[column];
            rows.get(row).sorts[column] = value < 0 ? 10 : value;
            return before;
        }

        int of(int row, int what) {
            if (!in(row, 0, rows.size() - 1) || !in(what, 0, 6)) return UNKNOWN;
            Row r = rows.get(row);
            return what < 5 ? r.sorts[what] : what == 5 ? r.time : r.hit ? 1 : 0;
        }

        private List<Row> having(List<Row> among, int column, int sort) {
            List<Row> found = new ArrayList<>();
            for (Row r : among) if (r.sorts[column] == sort) found.add(r);
            return found;
        }

        private static int hits(List<Row> among) {
            int hits = 0;
            for (Row r : among) if (r.hit) hits++;
            return hits;
        }

        int slices(int least, int deep) {
            if (!in(least, 1, 48) || !in(deep, 1, 2)) return OUTSIDE;
            list = new ArrayList<>();
            for (int c = 0; c < 5; c++) for (int s = 0; s < 11; s++) {
                List<Row> one = having(rows, c, s);
                judge(one, least, c, s, NONE, NONE);
                for (int d = c + 1; d < 5 && deep == 2; d++) for (int t = 0; t < 11; t++) {
                    List<Row> two = having(one, d, t);
                    boolean same = two.equals(one) || two.equals(having(rows, d, t));
                    if (!same) judge(two, least, c, s, d, t);
                }
            }
            list.sort(null);
            return list.size();
        }

        private void judge(List<Row> found, int least, int... place) {
            if (found.size() < least) return;
            Slice slice = new Slice();
            slice.place = place;
            slice.rows = found;
            slice.hits = hits(found);
            list.add(slice);
        }

        int slice(int i, int what) {
            if (!in(i, 0, list.size() - 1) || !in(what, 0, 5)) return UNKNOWN;
            Slice s = list.get(i);
            return what < 4 ? s.place[what] : what == 4 ? s.rows.size() : s.hits;
        }

        int member(int i, int k) {
            if (!in(i, 0, list.size() - 1)) return UNKNOWN;
            if (k < 0) return OUTSIDE;
            List<Row> found = list.get(i).rows;
            return k < found.size() ? found.get(k).number : NONE;
        }

        long share(int i, int side, int part) {
            if (!in(i, 0, list.size() - 1)) return UNKNOWN;
            if (!in(side, 0, 1) || !in(part, 0, 1)) return OUTSIDE;
            Slice s = list.get(i);
            return (side == 0 ? Share.of(s.hits, s.rows.size()) : s.bound()).part(part);
        }

        long gap(int column, int sort, int other, int part) {
            if (!in(column, 0, 4)) return UNKNOWN;
            if (!in(sort, 0, 10) || !in(other, 0, 10) || !in(part, 0, 1)) return OUTSIDE;
            List<Row> a = having(rows, column, sort), b = having(rows, column, other);
            if (a.isEmpty() || b.isEmpty()) throw new ArithmeticException();
            return Share.of(hits(a), a.size()).minus(Share.of(hits(b), b.size())).part(part);
        }

        private List<Row> windowOf(int from, int to) {
            List<Row> found = new ArrayList<>();
            for (Row r : rows) if (from <= r.time && r.time < to) found.add(r);
            return found;
        }

        int window(int from, int to) {
            return times(from, from, to) ? windowOf(from, to).size() : OUTSIDE;
        }

        private Share driftOf(int column, List<Row> a, List<Row> b) {
            if (a.isEmpty() || b.isEmpty()) throw new ArithmeticException();
            Share sum = Share.of(0, 1);
            for (int s = 0; s <= 10; s++) {
                Share first = Share.of(having(a, column, s).size(), a.size());
                Share second = Share.of(having(b, column, s).size(), b.size());
                sum = sum.plus(first.minus(second).size());
            }
            return sum.by(Share.of(2, 1));
        }

        long drift(int column, int from, int middle, int to, int part) {
            if (!in(column, 0, 4)) return UNKNOWN;
            if (!times(from, middle, to) || !in(part, 0, 1)) return OUTSIDE;
            return driftOf(column, windowOf(from, middle), windowOf(middle, to)).part(part);
        }

        private List<Integer> valuesOf(int column, int from, int to) {
            List<Integer> found = new ArrayList<>();
            for (Row r : windowOf(from, to)) if (r.sorts[column] != 10) found.add(r.sorts[column]);
            return found;
        }

        private static int riseOf(List<Integer> first, List<Integer> second) {
            int sum = 0;
            for (int a : first) for (int b : second) sum += b > a ? 2 : b == a ? 1 : 0;
            return sum;
        }

        int rise(int column, int from, int middle, int to) {
            if (!in(column, 0, 4)) return UNKNOWN;
            if (!times(from, middle, to)) return OUTSIDE;
            return riseOf(valuesOf(column, from, middle), valuesOf(column, middle, to));
        }

        long odds(int column, int from, int middle, int to, int part) {
            if (!in(column, 0, 4)) return UNKNOWN;
            if (!times(from, middle, to) || !in(part, 0, 1)) return OUTSIDE;
            List<Integer> first = valuesOf(column, from, middle), all = valuesOf(column, from, to);
            List<Integer> second = valuesOf(column, middle, to);
            if (all.size() > 20) return STATE;
            int n = all.size(), need = riseOf(first, second);
            int[] v = new int[n];
            for (int i = 0; i < n; i++) v[i] = all.get(i);
            long ways = 0, good = 0;
            for (int set = 0; set < 1 << n; set++) {
                if (Integer.bitCount(set) != first.size()) continue;
                ways++;
                int rise = 0;
                for (int i = 0; i < n; i++) for (int j = 0; j < n; j++) {
                    if ((set >> i & 1) == 1 && (set >> j & 1) == 0) rise += v[j] > v[i] ? 2 : v[j] == v[i] ? 1 : 0;
                }
                if (rise >= need) good++;
            }
            return Share.of(good, ways).part(part);
        }

        int fresh(int column, int from, int middle, int to, int i) {
            if (!in(column, 0, 4)) return UNKNOWN;
            if (!times(from, middle, to) || i < -1) return OUTSIDE;
            List<Integer> found = new ArrayList<>();
            for (int v = 0; v <= 9; v++) {
                boolean later = valuesOf(column, middle, to).contains(v);
                if (later && !valuesOf(column, from, middle).contains(v)) found.add(v);
            }
            return i == -1 ? found.size() : i < found.size() ? found.get(i) : NONE;
        }

        private Share yes(List<Row> among, int guess) {
            int yes = having(among, guess, 1).size(), no = having(among, guess, 0).size();
            if (yes + no == 0) throw new ArithmeticException();
            return Share.of(yes, yes + no);
        }

        long shift(int label, int guess, int from, int middle, int to, int part) {
            if (!in(label, 0, 4) || !in(guess, 0, 4) || label == guess) return UNKNOWN;
            if (!times(from, middle, to) || !in(part, 0, 1)) return OUTSIDE;
            Share t = yes(having(windowOf(from, middle), label, 1), guess);
            Share f = yes(having(windowOf(from, middle), label, 0), guess);
            Share q = yes(windowOf(middle, to), guess);
            if (t.compareTo(f) == 0) return STATE;
            return q.minus(f).by(t.minus(f)).part(part);
        }

        int order(int from, int middle, int to, int i) {
            if (!in(i, 0, 4)) return UNKNOWN;
            if (!times(from, middle, to)) return OUTSIDE;
            List<Row> a = windowOf(from, middle), b = windowOf(middle, to);
            List<Integer> columns = new ArrayList<>(List.of(0, 1, 2, 3, 4));
            columns.sort((c, d) -> driftOf(d, a, b).compareTo(driftOf(c, a, b)));
            return columns.get(i);
        }

        /** An alarm is up, if since the latest step that was off fewer than HOLD were calm. */
        int watch(int column, int base, int step, int hold, int limit) {
            if (!in(column, 0, 4)) return UNKNOWN;
            if (!in(base, 1, 999) || !in(step, 1, 999) || !in(hold, 1, 100) || !in(limit, 1, 1000)) return OUTSIDE;
            List<Row> first = windowOf(0, base);
            if (first.isEmpty()) return STATE;
            steps = new ArrayList<>();
            for (int at = base; at < 1000 && steps.size() < 100; at += step) {
                List<Row> then = windowOf(at, Math.min(1000, at + step));
                boolean off = !then.isEmpty() && driftOf(column, first, then).compareTo(Share.of(limit, 1000)) >= 0;
                steps.add(new int[] {0, off ? 1 : 0, then.size(), at});
            }
            begun = 0;
            int ups = 0;
            for (int k = 0; k < steps.size(); k++) {
                int calm = 0, back = k;
                while (back >= 0 && steps.get(back)[1] == 0) calm += steps.get(back--)[2] > 0 ? 1 : 0;
                steps.get(k)[0] = back >= 0 && calm < hold ? 1 : 0;
                ups += steps.get(k)[0];
                if (steps.get(k)[0] == 1 && (k == 0 || steps.get(k - 1)[0] == 0)) begun++;
            }
            return ups;
        }

        int step(int k, int what) {
            return in(k, 0, steps.size() - 1) && in(what, 0, 3) ? steps.get(k)[what] : UNKNOWN;
        }

        int count(int what) {
            switch (what) {
                case 0: return rows.size();
                case 1: return hits(rows);
                case 2: return list.size();
                case 3: return steps.size();
                case 4: return begun;
                case 5: {
                    int lacking = 0;
                    for (Row r : rows) {
                        boolean some = false;
                        for (int s : r.sorts) some |= s == 10;
                        if (some) lacking++;
                    }
                    return lacking;
                }
                default: return UNKNOWN;
            }
        }
    }
}

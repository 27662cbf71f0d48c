import java.util.Random;

/** Every call with every mixture of numbers at, beside and far from its bounds, held against the model. */
public final class SweepTest {
    private static final int LEAST = Integer.MIN_VALUE, MOST = Integer.MAX_VALUE;
    private static final int[] COLUMNS = {LEAST, -1, 0, 1, 4, 5, MOST};
    private static final int[] TIMES = {LEAST, -1, 0, 1, 7, 8, 999, 1000, 1001, MOST};
    private static final int[] PARTS = {LEAST, -1, 0, 1, 2, MOST};
    private static final int[] ROWS = {LEAST, -64, -1, 0, 1, 6, 7, 8, 46, 47, 48, 63, 64, MOST};
    private static final int[] SORTS = {LEAST, -1, 0, 1, 9, 10, 11, MOST};
    private static final int[] VALUES = {LEAST, -2, -1, 0, 9, 10, MOST};
    private static final int[] PLACES = {LEAST, -2, -1, 0, 1, 2, 3, 4, 5, 6, 7, 10, 47, 48, 98, 99, 100, 535, MOST};
    private static final int[] LEASTS = {LEAST, 0, 1, 2, 3, 47, 48, 49, MOST};
    private static final int[] DEEPS = {LEAST, 0, 1, 2, 3, MOST};
    private static final int[] BASES = {LEAST, 0, 1, 2, 8, 500, 998, 999, 1000, MOST};
    private static final int[] STEPS = {LEAST, 0, 1, 9, 10, 998, 999, 1000, MOST};
    private static final int[] HOLDS = {LEAST, 0, 1, 2, 99, 100, 101, MOST};
    private static final int[] LIMITS = {LEAST, 0, 1, 500, 999, 1000, 1001, MOST};
    /** So many, and a new object is made: with the calls that make it these stay below 512. */
    private static final int CALLS = 150;

    private final Check check = new Check();
    private final int rows;
    private SliceDrift subject;
    private Model model;
    private int calls;

    private SweepTest(int rows) {
        this.rows = rows;
    }

    public static void main(String[] args) {
        // 8 are few enough for odds, 48 too many, and no room for a row
        for (int rows : new int[] {0, 1, 8, 48}) {
            SweepTest sweep = new SweepTest(rows);
            sweep.check.begin(rows + " rows");
            sweep.ofRows();
            sweep.ofSlices();
            sweep.ofWindows();
            sweep.ofShiftAndOrder();
            sweep.ofAlarms();
            sweep.check.end();
        }
    }

    /** The same rows, values, list and watch for both, always the same for so many rows. */
    private void makeAnew() {
        subject = new SliceDrift();
        model = new Model();
        calls = 0;
        Random random = new Random(77 + rows);
        for (int n = 0; n < rows; n++) {
            int time = n % 4 == 3 ? 999 : n % 9;
            boolean hit = random.nextBoolean();
            subject.row(time, hit);
            model.row(time, hit);
            for (int column = 0; column < 5; column += rows == 48 ? 2 : 1) {
                int value = random.nextInt(column + 2) - (column > 2 ? 1 : 0);
                subject.put(n, column, value);
                model.put(n, column, value);
            }
        }
        subject.slices(1, 2);
        model.slices(1, 2);
        subject.watch(0, 2, 9, 2, 300);
        model.watch(0, 2, 9, 2, 300);
    }

    private interface Asked {
        long answer(SliceDrift x);
    }

    private interface Due {
        long answer(Model m);
    }

    private void same(String call, Due due, Asked asked) {
        if (subject == null || calls >= CALLS) {
            makeAnew();
        }
        calls++;
        check.due(call, Check.answerOf(() -> due.answer(model)), () -> asked.answer(subject));
    }

    private void ofRows() {
        for (int time : TIMES) {
            for (boolean hit : new boolean[] {false, true}) {
                same("row " + time, m -> m.row(time, hit), x -> x.row(time, hit));
                for (int what = 0; what <= 5; what++) {
                    int w = what;
                    same("count " + w + " behind row " + time, m -> m.count(w), x -> x.count(w));
                }
            }
        }
        subject = null;
        for (int row : ROWS) {
            for (int place : PLACES) {
                same("of " + row + " " + place, m -> m.of(row, place), x -> x.of(row, place));
            }
            for (int column : COLUMNS) {
                for (int value : VALUES) {
                    same("put " + row + " " + column + " " + value,
                        m -> m.put(row, column, value), x -> x.put(row, column, value));
                    same("lacking behind it", m -> m.count(5), x -> x.count(5));
                }
            }
        }
        subject = null;
    }

    private void ofSlices() {
        for (int place : PLACES) {
            for (int other : PLACES) {
                same("slice " + place + " " + other, m -> m.slice(place, other), x -> x.slice(place, other));
                same("member " + place + " " + other, m -> m.member(place, other), x -> x.member(place, other));
                for (int part : PARTS) {
                    same("share " + place + " " + other + " " + part,
                        m -> m.share(place, other, part), x -> x.share(place, other, part));
                }
            }
        }
        for (int least : LEASTS) {
            for (int deep : DEEPS) {
                same("slices " + least + " " + deep, m -> m.slices(least, deep), x -> x.slices(least, deep));
                same("how many", m -> m.count(2), x -> x.count(2));
                same("first", m -> m.slice(0, 4), x -> x.slice(0, 4));
            }
        }
        subject = null;
        for (int column : COLUMNS) {
            for (int sort : SORTS) {
                for (int other : SORTS) {
                    for (int part : PARTS) {
                        same("gap " + column + " " + sort + " " + other + " " + part,
                            m -> m.gap(column, sort, other, part), x -> x.gap(column, sort, other, part));
                    }
                }
            }
        }
    }

    private void ofWindows() {
        for (int from : TIMES) {
            for (int to : TIMES) {
                same("window " + from + " " + to, m -> m.window(from, to), x -> x.window(from, to));
                for (int middle : TIMES) {
                    for (int column : COLUMNS) {
                        ofTwoWindows(column, from, middle, to);
                    }
                }
            }
        }
    }

    private void ofTwoWindows(int column, int from, int middle, int to) {
        String times = " " + column + " " + from + " " + middle + " " + to + " ";
        same("rise" + times, m -> m.rise(column, from, middle, to), x -> x.rise(column, from, middle, to));
        for (int part : PARTS) {
            same("drift" + times + part,
                m -> m.drift(column, from, middle, to, part), x -> x.drift(column, from, middle, to, part));
            same("odds" + times + part,
                m -> m.odds(column, from, middle, to, part), x -> x.odds(column, from, middle, to, part));
        }
        for (int i : new int[] {LEAST, -2, -1, 0, 1, 2, 10, MOST}) {
            same("fresh" + times + i,
                m -> m.fresh(column, from, middle, to, i), x -> x.fresh(column, from, middle, to, i));
        }
    }

    private void ofShiftAndOrder() {
        for (int from : new int[] {-1, 0, 1, 7, 1000, 1001}) {
            for (int middle : new int[] {-1, 0, 5, 8, 1000, 1001}) {
                for (int to : new int[] {-1, 0, 8, 1000, 1001}) {
                    for (int label : COLUMNS) {
                        for (int guess : COLUMNS) {
                            for (int part : new int[] {-1, 0, 1, 2}) {
                                same("shift " + label + " " + guess + " " + from + " " + middle + " " + to + " " + part,
                                    m -> m.shift(label, guess, from, middle, to, part),
                                    x -> x.shift(label, guess, from, middle, to, part));
                            }
                        }
                    }
                    for (int i : PLACES) {
                        same("order " + from + " " + middle + " " + to + " " + i,
                            m -> m.order(from, middle, to, i), x -> x.order(from, middle, to, i));
                    }
                }
            }
        }
    }

    private void ofAlarms() {
        for (int column : COLUMNS) {
            for (int base : BASES) {
                for (int step : STEPS) {
                    for (int hold : HOLDS) {
                        for (int limit : LIMITS) {
                            same("watch " + column + " " + base + " " + step + " " + hold + " " + limit,
                                m -> m.watch(column, base, step, hold, limit),
                                x -> x.watch(column, base, step, hold, limit));
                            same("alarms", m -> m.count(4), x -> x.count(4));
                        }
                    }
                    for (int k : PLACES) {
                        for (int what : new int[] {LEAST, -1, 0, 1, 2, 3, 4, MOST}) {
                            same("step " + k + " " + what, m -> m.step(k, what), x -> x.step(k, what));
                        }
                    }
                }
            }
        }
        for (int what : PLACES) {
            same("count " + what, m -> m.count(what), x -> x.count(what));
        }
    }
}

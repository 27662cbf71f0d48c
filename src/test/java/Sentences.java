/** What the tests share that go through the document: its numbers, how rows are made, how answers are held against it. */
abstract class Sentences {
    static final int NONE = -1, UNKNOWN = -1000001, OUTSIDE = -1000002, STATE = -1000003, ROOM = -1000004;
    static final long THROWS = Check.THROWS;
    static final int LEAST_INT = Integer.MIN_VALUE, MOST_INT = Integer.MAX_VALUE;
    static final Check CHECK = new Check();

    /** Both parts of a fraction. */
    interface Parts {
        long part(int part);
    }

    /** A call that is given a number at the place that is tried. */
    interface Of {
        long answer(int number);
    }

    /** What follows is due by these words. */
    static void sentence(String words) {
        CHECK.begin(words);
    }

    static void due(String what, long want, Check.Call call) {
        CHECK.due(what, want, call);
    }

    static void fraction(String what, long above, long below, Parts parts) {
        due(what + " above", above, () -> parts.part(0));
        due(what + " below", below, () -> parts.part(1));
    }

    /** The same answer for each of these numbers. */
    static void each(String what, int want, Of call, int... numbers) {
        for (int number : numbers) {
            due(what + " " + number, want, () -> call.answer(number));
        }
    }

    /** Neither below least nor above most is taken: the numbers next to these, and the ends of int. */
    static void refusedBeside(String what, int want, int least, int most, Of call) {
        each(what, want, call, least - 1, most + 1, LEAST_INT, MOST_INT);
    }

    /** A row with its values, NONE or left out where it has none. */
    static void add(SliceDrift x, int time, boolean hit, int... values) {
        int row = x.row(time, hit);
        for (int column = 0; column < values.length; column++) {
            x.put(row, column, values[column]);
        }
    }

    /** The same row a number of times. */
    static void addMany(SliceDrift x, int many, int time, boolean hit, int... values) {
        for (int n = 0; n < many; n++) {
            add(x, time, hit, values);
        }
    }

    /** The first places of slice(i, ..). */
    static void listed(SliceDrift x, int i, int... want) {
        for (int what = 0; what < want.length; what++) {
            int w = what;
            due("slice " + i + ", " + what, want[what], () -> x.slice(i, w));
        }
    }

    /** All of THE LIST, each by its first places, and none behind it. */
    static void wholeList(SliceDrift x, int[]... want) {
        due("how many", want.length, () -> x.count(2));
        for (int i = 0; i < want.length; i++) {
            listed(x, i, want[i]);
        }
        due("none behind", UNKNOWN, () -> x.slice(want.length, 0));
    }

    /** The rows that the i-th slice had, and none behind these. */
    static void members(SliceDrift x, int i, int... want) {
        for (int k = 0; k < want.length; k++) {
            int at = k;
            due("member " + i + ", " + k, want[k], () -> x.member(i, at));
        }
        due("member " + i + ", none behind", NONE, () -> x.member(i, want.length));
    }
}

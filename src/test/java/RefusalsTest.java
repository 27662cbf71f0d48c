/** "Refused, and nothing changes": each refusal leaves all that an object tells as an untouched one tells it. */
public final class RefusalsTest extends Sentences {
    private interface Asked {
        long answer(SliceDrift x);
    }

    /** Makes the object that a refusal is tried on: each gets a new one, used for fewer than 512 calls. */
    private interface Maker {
        SliceDrift make();
    }

    public static void main(String[] args) {
        ofRows();
        ofSlices();
        ofWindows();
        ofShift();
        ofAlarms();
        ofAFullObject();
        ofANewObject();
        ofWhatOnlyTells();
        theSameNumberAsALong();
        theFirstOfThese();
        CHECK.end();
    }

    /** Six rows; column 0 has labels, column 1 guesses, column 2 values of both windows; a list and a watch. */
    private static SliceDrift few() {
        SliceDrift x = new SliceDrift();
        add(x, 0, true, 1, 1, 3);
        add(x, 0, false, 0, 0, 4);
        add(x, 1, true, 1, 0, NONE, 9);
        add(x, 10, false, 0, 1, 5);
        add(x, 11, true, 1, 1, 3);
        add(x, 12, false, 2, 0, 6, 0);
        x.slices(2, 2);
        x.watch(0, 10, 1, 2, 100);
        return x;
    }

    /** 48 rows, all with values in column 0, none in the others; a list and a watch. */
    private static SliceDrift full() {
        SliceDrift x = new SliceDrift();
        for (int n = 0; n < 48; n++) {
            add(x, n, n % 2 == 0, n % 10);
        }
        x.slices(48, 1);
        x.watch(0, 24, 488, 1, 1000);
        return x;
    }

    /** All that can be told of an object without a change: rows, list, steps and counts. */
    private static String told(SliceDrift x) {
        StringBuilder text = new StringBuilder();
        for (int what = 0; what <= 5; what++) {
            text.append(x.count(what)).append(' ');
        }
        for (int row = 0; row < x.count(0); row++) {
            for (int what = x.count(0) < 48 ? 0 : 5; what <= 6; what++) {
                text.append(x.of(row, what)).append(' ');
            }
        }
        for (int i = 0; i < x.count(2); i++) {
            for (int what = 0; what <= 5; what++) {
                text.append(x.slice(i, what)).append(' ');
            }
            for (int k = 0; k < Math.min(3, x.slice(i, 4)); k++) {
                text.append(x.member(i, k)).append(' ');
            }
        }
        for (int k = 0; k < Math.min(9, x.count(3)); k++) {
            for (int what = 0; what <= 3; what++) {
                text.append(x.step(k, what)).append(' ');
            }
        }
        return text.toString();
    }

    private static void unchanged(String what, long want, Maker maker, Asked asked) {
        SliceDrift x = maker.make();
        due(what, want, () -> asked.answer(x));
        String before = told(maker.make());
        String after = told(x);
        due(what + ": nothing changes", 1, () -> before.equals(after) ? 1 : 0);
    }

    private static void few(String what, long want, Asked asked) {
        unchanged(what, want, RefusalsTest::few, asked);
    }

    private static void full(String what, long want, Asked asked) {
        unchanged(what, want, RefusalsTest::full, asked);
    }

    private static void ofRows() {
        sentence("Refused, and nothing changes: rows");
        few("row at -1", OUTSIDE, x -> x.row(-1, true));
        few("row at 1000", OUTSIDE, x -> x.row(1000, true));
        few("put in row -1", UNKNOWN, x -> x.put(-1, 0, 7));
        few("put in row 6", UNKNOWN, x -> x.put(6, 0, 7));
        few("put in row 64", UNKNOWN, x -> x.put(64, 0, 7));
        few("put in column -1", UNKNOWN, x -> x.put(1, -1, 7));
        few("put in column 5", UNKNOWN, x -> x.put(1, 5, 7));
        few("put -2", OUTSIDE, x -> x.put(1, 0, -2));
        few("put 10", OUTSIDE, x -> x.put(1, 0, 10));
        few("put 10 where there is none", OUTSIDE, x -> x.put(1, 4, 10));
        few("of row 6", UNKNOWN, x -> x.of(6, 0));
        few("of 7", UNKNOWN, x -> x.of(0, 7));
    }

    private static void ofSlices() {
        sentence("Refused, and nothing changes: slices");
        few("least 0", OUTSIDE, x -> x.slices(0, 1));
        few("least 49", OUTSIDE, x -> x.slices(49, 2));
        few("deep 0", OUTSIDE, x -> x.slices(1, 0));
        few("deep 3", OUTSIDE, x -> x.slices(1, 3));
        few("slice -1", UNKNOWN, x -> x.slice(-1, 0));
        few("slice, what 6", UNKNOWN, x -> x.slice(0, 6));
        few("member of -1", UNKNOWN, x -> x.member(-1, 0));
        few("member -1", OUTSIDE, x -> x.member(0, -1));
        few("share of -1", UNKNOWN, x -> x.share(-1, 0, 0));
        few("share, side 2", OUTSIDE, x -> x.share(0, 2, 0));
        few("share, part 2", OUTSIDE, x -> x.share(0, 1, 2));
        few("gap in 5", UNKNOWN, x -> x.gap(5, 0, 1, 0));
        few("gap of 11", OUTSIDE, x -> x.gap(0, 11, 1, 0));
        few("gap of none", THROWS, x -> x.gap(0, 9, 1, 0));
    }

    private static void ofWindows() {
        sentence("Refused, and nothing changes: windows");
        few("window", OUTSIDE, x -> x.window(5, 4));
        few("drift of 5", UNKNOWN, x -> x.drift(5, 0, 10, 20, 0));
        few("drift", OUTSIDE, x -> x.drift(0, 0, 20, 10, 0));
        few("drift of no rows", THROWS, x -> x.drift(0, 0, 20, 30, 0));
        few("rise of 5", UNKNOWN, x -> x.rise(5, 0, 10, 20));
        few("rise", OUTSIDE, x -> x.rise(0, 10, 0, 20));
        few("odds of 5", UNKNOWN, x -> x.odds(5, 0, 10, 20, 0));
        few("odds", OUTSIDE, x -> x.odds(0, 0, 10, 20, 2));
        few("fresh in 5", UNKNOWN, x -> x.fresh(5, 0, 10, 20, 0));
        few("fresh", OUTSIDE, x -> x.fresh(2, 0, 10, 20, -2));
        few("order", UNKNOWN, x -> x.order(0, 10, 20, 5));
        few("order of no windows", OUTSIDE, x -> x.order(0, 10, 1001, 0));
        few("order of no rows", THROWS, x -> x.order(0, 20, 30, 0));
    }

    private static void ofShift() {
        sentence("Refused, and nothing changes: shift");
        // t is 1/2, f is 0, q is 2/3
        few("shift", 4, x -> x.shift(0, 1, 0, 10, 20, 0));
        few("shift of 5", UNKNOWN, x -> x.shift(5, 1, 0, 10, 20, 0));
        few("shift of one", UNKNOWN, x -> x.shift(1, 1, 0, 10, 20, 0));
        few("shift of no windows", OUTSIDE, x -> x.shift(0, 1, 11, 10, 20, 0));
        few("shift, part 2", OUTSIDE, x -> x.shift(0, 1, 0, 10, 20, 2));
        few("shift of no rows", THROWS, x -> x.shift(0, 1, 0, 20, 30, 0));
        // from 10 on both shares are 1: a label of yes and one of no, guessed yes
        few("shift of like shares", STATE, x -> x.shift(0, 1, 10, 12, 13, 0));
    }

    private static void ofAlarms() {
        sentence("Refused, and nothing changes: alarms");
        few("watch of 5", UNKNOWN, x -> x.watch(5, 11, 7, 1, 1));
        few("base 0", OUTSIDE, x -> x.watch(2, 0, 7, 1, 1));
        few("base 1000", OUTSIDE, x -> x.watch(2, 1000, 7, 1, 1));
        few("step 0", OUTSIDE, x -> x.watch(2, 11, 0, 1, 1));
        few("step 1000", OUTSIDE, x -> x.watch(2, 11, 1000, 1, 1));
        few("hold 0", OUTSIDE, x -> x.watch(2, 11, 7, 0, 1));
        few("hold 101", OUTSIDE, x -> x.watch(2, 11, 7, 101, 1));
        few("limit 0", OUTSIDE, x -> x.watch(2, 11, 7, 1, 0));
        few("limit 1001", OUTSIDE, x -> x.watch(2, 11, 7, 1, 1001));
        few("step -1", UNKNOWN, x -> x.step(-1, 0));
        few("step 100", UNKNOWN, x -> x.step(100, 0));
        few("step, what 4", UNKNOWN, x -> x.step(0, 4));
        few("count 6", UNKNOWN, x -> x.count(6));
        Maker late = () -> {
            SliceDrift x = new SliceDrift();
            add(x, 500, true, 1);
            add(x, 600, true, 2);
            x.watch(0, 600, 100, 1, 1);
            return x;
        };
        unchanged("base without rows", STATE, late, x -> x.watch(0, 500, 50, 1, 1));
    }

    private static void ofAFullObject() {
        sentence("Refused, and nothing changes: a full object");
        full("a 49th row", ROOM, x -> x.row(500, true));
        full("a 49th row that is no hit", ROOM, x -> x.row(0, false));
        full("OUTSIDE ahead of ROOM", OUTSIDE, x -> x.row(1000, true));
        full("odds of 48", STATE, x -> x.odds(0, 0, 24, 48, 0));
        full("put in row 48", UNKNOWN, x -> x.put(48, 0, 1));
        full("put 10 in row 47", OUTSIDE, x -> x.put(47, 4, 10));
        full("least 49", OUTSIDE, x -> x.slices(49, 1));
    }

    private static void ofANewObject() {
        sentence("Refused, and nothing changes: a new object");
        unchanged("row", OUTSIDE, SliceDrift::new, x -> x.row(1000, true));
        unchanged("put", UNKNOWN, SliceDrift::new, x -> x.put(0, 0, 0));
        unchanged("slices", OUTSIDE, SliceDrift::new, x -> x.slices(1, 0));
        unchanged("slice", UNKNOWN, SliceDrift::new, x -> x.slice(0, 0));
        unchanged("gap", THROWS, SliceDrift::new, x -> x.gap(0, 10, 10, 0));
        unchanged("watch", STATE, SliceDrift::new, x -> x.watch(0, 1, 1, 1, 1));
        unchanged("step", UNKNOWN, SliceDrift::new, x -> x.step(0, 0));
    }

    private static void ofWhatOnlyTells() {
        sentence("what is only told changes nothing either");
        few("of", 3, x -> x.of(0, 2));
        few("gap", 1, x -> x.gap(0, 1, 0, 0));
        few("window", 6, x -> x.window(0, 1000));
        few("drift", 1, x -> x.drift(0, 0, 10, 20, 0));
        // 3 4 | 5 3 6: 2 + 1 + 2 and 2 + 0 + 2
        few("rise", 9, x -> x.rise(2, 0, 10, 20));
        few("fresh", 2, x -> x.fresh(2, 0, 10, 20, NONE));
        // of 3 3 4 5 6 two: 33 12, 34 9 (2), 35 7 (2), 36 5 (2), 45 4, 46 2, 56 0: three of ten
        few("odds", 3, x -> x.odds(2, 0, 10, 20, 0));
        few("order", 2, x -> x.order(0, 10, 20, 0));
        full("member", 47, x -> x.member(0, 47));
        // twenty values on either side, each twice: as many greater as less
        full("rise", 400, x -> x.rise(0, 4, 24, 44));
    }

    private static void theSameNumberAsALong() {
        sentence("Where a long is answered, it is the same number");
        few("share, UNKNOWN", -1000001L, x -> x.share(-1, 0, 0));
        few("share, OUTSIDE", -1000002L, x -> x.share(0, 0, 2));
        few("gap, UNKNOWN", -1000001L, x -> x.gap(-1, 0, 1, 0));
        few("gap, OUTSIDE", -1000002L, x -> x.gap(0, 0, -1, 0));
        few("drift, UNKNOWN", -1000001L, x -> x.drift(-1, 0, 10, 20, 0));
        few("drift, OUTSIDE", -1000002L, x -> x.drift(0, 0, 10, 9, 0));
        few("odds, UNKNOWN", -1000001L, x -> x.odds(-1, 0, 10, 20, 0));
        few("odds, OUTSIDE", -1000002L, x -> x.odds(0, 0, 10, 9, 0));
        full("odds, STATE", -1000003L, x -> x.odds(0, 0, 24, 48, 1));
        few("shift, UNKNOWN", -1000001L, x -> x.shift(0, 0, 0, 10, 20, 0));
        few("shift, OUTSIDE", -1000002L, x -> x.shift(0, 1, 0, 10, 9, 0));
        few("shift, STATE", -1000003L, x -> x.shift(0, 1, 10, 12, 13, 1));
    }

    /** Each call with all that it can be refused for at once, then with the first of these mended, and so on. */
    private static void theFirstOfThese() {
        sentence("UNKNOWN, OUTSIDE, STATE, ROOM: the first of these, all ahead of ArithmeticException");
        full("row: OUTSIDE", OUTSIDE, x -> x.row(-1, true));
        full("row: ROOM", ROOM, x -> x.row(0, true));
        few("put: UNKNOWN row", UNKNOWN, x -> x.put(6, 5, 10));
        few("put: UNKNOWN column", UNKNOWN, x -> x.put(5, 5, 10));
        few("put: OUTSIDE", OUTSIDE, x -> x.put(5, 4, 10));
        few("member: UNKNOWN", UNKNOWN, x -> x.member(-1, -1));
        few("member: OUTSIDE", OUTSIDE, x -> x.member(0, -1));
        few("share: UNKNOWN", UNKNOWN, x -> x.share(-1, -1, -1));
        few("share: OUTSIDE side", OUTSIDE, x -> x.share(0, -1, -1));
        few("share: OUTSIDE part", OUTSIDE, x -> x.share(0, 0, -1));
        few("gap: UNKNOWN", UNKNOWN, x -> x.gap(5, 11, 11, 2));
        few("gap: OUTSIDE sort", OUTSIDE, x -> x.gap(4, 11, 11, 2));
        few("gap: OUTSIDE other", OUTSIDE, x -> x.gap(4, 9, 11, 2));
        few("gap: OUTSIDE part", OUTSIDE, x -> x.gap(4, 9, 8, 2));
        few("gap: the exception", THROWS, x -> x.gap(4, 9, 8, 1));
        few("drift: UNKNOWN", UNKNOWN, x -> x.drift(5, 30, 20, 10, 2));
        few("drift: OUTSIDE times", OUTSIDE, x -> x.drift(4, 30, 20, 10, 2));
        few("drift: OUTSIDE part", OUTSIDE, x -> x.drift(4, 20, 30, 40, 2));
        few("drift: the exception", THROWS, x -> x.drift(4, 20, 30, 40, 1));
        few("rise: UNKNOWN", UNKNOWN, x -> x.rise(5, 30, 20, 10));
        few("rise: OUTSIDE", OUTSIDE, x -> x.rise(4, 30, 20, 10));
        full("odds: UNKNOWN", UNKNOWN, x -> x.odds(5, 0, 24, 23, 2));
        full("odds: OUTSIDE times", OUTSIDE, x -> x.odds(0, 0, 24, 23, 2));
        full("odds: OUTSIDE part", OUTSIDE, x -> x.odds(0, 0, 24, 48, 2));
        full("odds: STATE", STATE, x -> x.odds(0, 0, 24, 48, 1));
        few("fresh: UNKNOWN", UNKNOWN, x -> x.fresh(5, 30, 20, 10, -2));
        few("fresh: OUTSIDE times", OUTSIDE, x -> x.fresh(4, 30, 20, 10, -2));
        few("fresh: OUTSIDE i", OUTSIDE, x -> x.fresh(4, 10, 20, 30, -2));
        few("shift: UNKNOWN", UNKNOWN, x -> x.shift(0, 0, 12, 10, 30, 2));
        few("shift: OUTSIDE times", OUTSIDE, x -> x.shift(0, 1, 12, 10, 30, 2));
        few("shift: OUTSIDE part", OUTSIDE, x -> x.shift(0, 1, 10, 12, 12, 2));
        few("shift: the exception, ahead of STATE here", THROWS, x -> x.shift(0, 1, 10, 12, 12, 1));
        few("shift: STATE", STATE, x -> x.shift(0, 1, 10, 12, 13, 1));
        few("order: UNKNOWN", UNKNOWN, x -> x.order(30, 20, 10, 5));
        few("order: OUTSIDE", OUTSIDE, x -> x.order(30, 20, 10, 4));
        few("order: the exception", THROWS, x -> x.order(20, 30, 40, 4));
        Maker late = () -> {
            SliceDrift x = new SliceDrift();
            x.row(500, true);
            return x;
        };
        unchanged("watch: UNKNOWN", UNKNOWN, late, x -> x.watch(5, 0, 0, 0, 0));
        unchanged("watch: OUTSIDE base", OUTSIDE, late, x -> x.watch(4, 0, 0, 0, 0));
        unchanged("watch: OUTSIDE step", OUTSIDE, late, x -> x.watch(4, 500, 0, 0, 0));
        unchanged("watch: OUTSIDE hold", OUTSIDE, late, x -> x.watch(4, 500, 1, 0, 0));
        unchanged("watch: OUTSIDE limit", OUTSIDE, late, x -> x.watch(4, 500, 1, 1, 0));
        unchanged("watch: STATE", STATE, late, x -> x.watch(4, 500, 1, 1, 1));
    }
}

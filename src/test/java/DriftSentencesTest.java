import java.math.BigInteger;
import java.util.Arrays;

/** Section 3 of the document and promises 10 to 16: each sentence that names a boundary has a test of its own. */
public final class DriftSentencesTest extends Sentences {
    /** A call that is given two windows, from a to b and from b to c. */
    private interface OfTimes {
        long answer(int from, int middle, int to);
    }

    private static final int[][] NO_WINDOWS = {{-1, 5, 10}, {-1, -1, 10}, {-1, -1, -1}, {6, 5, 10}, {11, 10, 10},
        {0, 11, 10}, {5, 11, 10}, {10, 5, 7}, {0, 5, 1001}, {0, 1001, 1001}, {1001, 1001, 1001}, {0, 1001, 1000},
        {1001, 5, 10}, {LEAST_INT, 5, 10}, {0, LEAST_INT, 10}, {0, 5, LEAST_INT}, {MOST_INT, 5, 10},
        {0, MOST_INT, 10}, {0, 5, MOST_INT}, {LEAST_INT, LEAST_INT, LEAST_INT}, {MOST_INT, MOST_INT, MOST_INT}};

    public static void main(String[] args) {
        windowFromOnBelow();
        windowBounds();
        windowBoundsOfTwo();
        twoWindowsMeet();
        promise10HowMany();
        driftHalfTheSum();
        driftOverAllSorts();
        driftFromNoneToAll();
        promise11NoRows();
        promise11Refused();
        riseTwoOneNothing();
        riseWithValuesAlone();
        riseOfNone();
        promise12Refused();
        oddsNotLess();
        oddsAsManyAsTheFirst();
        oddsOfNone();
        oddsWithValuesAlone();
        oddsOfTwenty();
        promise13MoreThanTwenty();
        promise13Refused();
        promise14Rising();
        promise14NoneOfTheFirst();
        promise14None();
        promise14HowMany();
        promise14Refused();
        shiftOfShares();
        shiftOfYesAndNo();
        shiftOfOthers();
        shiftLabelIsNotAskedInTheSecond();
        shiftBothSigns();
        promise15BothAreOne();
        promise15TheSame();
        promise15NoRows();
        promise15NoRowsAheadOfState();
        promise15Refused();
        promise16GreatestFirst();
        promise16OfLikeOnesTheLeast();
        promise16NoRows();
        promise16Refused();
        CHECK.end();
    }

    /** Column 0 of rows, the first ones at time 0, the others at time 1; NONE for a row without a value. */
    private static SliceDrift two(int[] first, int[] second) {
        SliceDrift x = new SliceDrift();
        for (int value : first) {
            add(x, 0, false, value);
        }
        for (int value : second) {
            add(x, 1, false, value);
        }
        return x;
    }

    private static int[] these(int... values) {
        return values;
    }

    private static int[] many(int times, int value) {
        int[] values = new int[times];
        Arrays.fill(values, value);
        return values;
    }

    private static void windowFromOnBelow() {
        sentence("A WINDOW from a to b has all ROWS of TIMES from a on, below b");
        SliceDrift x = new SliceDrift();
        for (int time : new int[] {7, 5, 5, 6, 4}) {
            x.row(time, false);
        }
        due("5 to 7", 3, () -> x.window(5, 7));
        due("5 to 6", 2, () -> x.window(5, 6));
        due("6 to 7", 1, () -> x.window(6, 7));
        due("7 to 8", 1, () -> x.window(7, 8));
        due("8 to 9", 0, () -> x.window(8, 9));
        due("0 to 4", 0, () -> x.window(0, 4));
        due("0 to 5", 1, () -> x.window(0, 5));
        due("5 to 5", 0, () -> x.window(5, 5));
    }

    private static void windowBounds() {
        sentence("(0 <= a <= b <= 1000)");
        SliceDrift x = new SliceDrift();
        x.row(0, false);
        x.row(999, false);
        due("0 to 0", 0, () -> x.window(0, 0));
        due("0 to 1", 1, () -> x.window(0, 1));
        due("0 to 999", 1, () -> x.window(0, 999));
        due("0 to 1000", 2, () -> x.window(0, 1000));
        due("999 to 1000", 1, () -> x.window(999, 1000));
        due("1000 to 1000", 0, () -> x.window(1000, 1000));
        each("from, to 1000", OUTSIDE, from -> x.window(from, 1000), -1, 1001, LEAST_INT, MOST_INT);
        each("from 0, to", OUTSIDE, to -> x.window(0, to), -1, 1001, LEAST_INT, MOST_INT);
        each("from 5, to", OUTSIDE, to -> x.window(5, to), 4, 0);
        each("from and to", OUTSIDE, both -> x.window(both, both), -1, 1001, LEAST_INT, MOST_INT);
    }

    private static void windowBoundsOfTwo() {
        sentence("(0 <= a <= b <= 1000), of two WINDOWS, a to b and b to c");
        SliceDrift x = new SliceDrift();
        // with rows and without: at 0 and 7 there are some
        add(x, 0, false, 1, 1);
        add(x, 0, false, 0, 0);
        add(x, 7, false, 0, 0);
        outside("drift", (a, b, c) -> x.drift(0, a, b, c, 0));
        outside("rise", (a, b, c) -> x.rise(0, a, b, c));
        outside("odds", (a, b, c) -> x.odds(0, a, b, c, 0));
        outside("fresh", (a, b, c) -> x.fresh(0, a, b, c, NONE));
        outside("shift", (a, b, c) -> x.shift(0, 1, a, b, c, 0));
        outside("order", (a, b, c) -> x.order(a, b, c, 0));
        // the ends themselves are taken
        fraction("drift 0 7 1000", 1, 2, p -> x.drift(0, 0, 7, 1000, p));
        due("rise 0 7 1000", 1, () -> x.rise(0, 0, 7, 1000));
        fraction("odds 0 7 1000", 1, 1, p -> x.odds(0, 0, 7, 1000, p));
        due("fresh 0 0 1000", 2, () -> x.fresh(0, 0, 0, 1000, NONE));
        fraction("shift 0 7 1000", 0, 1, p -> x.shift(0, 1, 0, 7, 1000, p));
        due("order 0 7 1000", 0, () -> x.order(0, 7, 1000, 0));
        for (int end : new int[] {0, 1000}) {
            due("rise at " + end, 0, () -> x.rise(0, end, end, end));
            fraction("odds at " + end, 1, 1, p -> x.odds(0, end, end, end, p));
            due("fresh at " + end, 0, () -> x.fresh(0, end, end, end, NONE));
            due("drift at " + end, THROWS, () -> x.drift(0, end, end, end, 0));
            due("shift at " + end, THROWS, () -> x.shift(0, 1, end, end, end, 0));
            due("order at " + end, THROWS, () -> x.order(end, end, end, 0));
        }
        due("drift 0 1000 1000", THROWS, () -> x.drift(0, 0, 1000, 1000, 0));
        due("fresh 0 1000 1000", 0, () -> x.fresh(0, 0, 1000, 1000, NONE));
    }

    private static void outside(String name, OfTimes call) {
        for (int[] t : NO_WINDOWS) {
            due(name + " " + t[0] + " " + t[1] + " " + t[2], OUTSIDE, () -> call.answer(t[0], t[1], t[2]));
        }
    }

    private static void twoWindowsMeet() {
        sentence("two WINDOWS, a to b and b to c");
        SliceDrift x = new SliceDrift();
        // each time has a value of its own
        for (int time = 0; time < 10; time++) {
            add(x, time, false, time);
        }
        // 3 4 | 5 6: the one at 5 is of the second alone, those at 2 and 7 of none
        due("rise 3 5 7", 8, () -> x.rise(0, 3, 5, 7));
        due("new ones", 2, () -> x.fresh(0, 3, 5, 7, NONE));
        due("the first new one", 5, () -> x.fresh(0, 3, 5, 7, 0));
        due("the last new one", 6, () -> x.fresh(0, 3, 5, 7, 1));
        fraction("odds", 1, 6, p -> x.odds(0, 3, 5, 7, p));
        // first without rows of its own, though the second has
        due("drift 5 5 7", THROWS, () -> x.drift(0, 5, 5, 7, 0));
        due("drift 5 7 7", THROWS, () -> x.drift(0, 5, 7, 7, 0));
        fraction("drift 5 6 7", 1, 1, p -> x.drift(0, 5, 6, 7, p));
    }

    private static void promise10HowMany() {
        sentence("promise 10: How many ROWS a WINDOW has");
        SliceDrift x = new SliceDrift();
        due("of none", 0, () -> x.window(0, 1000));
        addMany(x, 48, 500, true);
        due("all at one time", 48, () -> x.window(500, 501));
        due("before it", 0, () -> x.window(0, 500));
        due("behind it", 0, () -> x.window(501, 1000));
        x.put(0, 0, 5);
        due("whatever values they have", 48, () -> x.window(0, 1000));
    }

    private static void driftHalfTheSum() {
        sentence("DRIFT: half the sum of how far its share in the first WINDOW's ROWS and in the second one's are apart");
        // 1/2 1/2 and 1/3 2/3: (1/6 + 1/6) / 2
        SliceDrift x = two(these(4, 5), these(4, 5, 5));
        fraction("1/6", 1, 6, p -> x.drift(0, 0, 1, 2, p));
        // 12/23 11/23 and 13/25 12/25: as near as two windows of 48 rows come
        SliceDrift y = new SliceDrift();
        addMany(y, 12, 0, false, 0);
        addMany(y, 11, 0, false, 1);
        addMany(y, 13, 1, false, 0);
        addMany(y, 12, 1, false, 1);
        fraction("1/575", 1, 575, p -> y.drift(0, 0, 1, 2, p));
        // 47 and 1: 1/47 and 1
        SliceDrift z = new SliceDrift();
        addMany(z, 46, 0, false, 0);
        addMany(z, 1, 0, false, 1);
        addMany(z, 1, 1, false, 1);
        fraction("46/47", 46, 47, p -> z.drift(0, 0, 1, 2, p));
    }

    private static void driftOverAllSorts() {
        sentence("DRIFT: over all SORTS");
        // a row without a value is of sort 10
        SliceDrift x = two(these(0), these(NONE));
        fraction("0 to 10", 1, 1, p -> x.drift(0, 0, 1, 2, p));
        SliceDrift y = two(these(NONE, NONE), these(NONE, 9));
        fraction("10 to 10 and 9", 1, 2, p -> y.drift(0, 0, 1, 2, p));
        SliceDrift z = two(these(0, 9), these(9, 0));
        fraction("0 and 9", 0, 1, p -> z.drift(0, 0, 1, 2, p));
        // eleven sorts, a row each, and one of them alone: 10/11
        SliceDrift w = two(these(0, 1, 2, 3, 4, 5, 6, 7, 8, 9, NONE), these(9));
        fraction("all and one", 10, 11, p -> w.drift(0, 0, 1, 2, p));
    }

    private static void driftFromNoneToAll() {
        sentence("DRIFT: from 0 to 1");
        SliceDrift x = two(these(3, 3), these(3));
        fraction("like", 0, 1, p -> x.drift(0, 0, 1, 2, p));
        fraction("like, all lacking", 0, 1, p -> x.drift(4, 0, 1, 2, p));
        SliceDrift y = two(these(3, 3, 4), these(5, 6));
        fraction("all apart", 1, 1, p -> y.drift(0, 0, 1, 2, p));
    }

    private static void promise11NoRows() {
        sentence("promise 11: ArithmeticException: a WINDOW has no ROWS");
        SliceDrift x = two(these(3), these(4));
        fraction("neither", 1, 1, p -> x.drift(0, 0, 1, 2, p));
        fraction("the first", THROWS, THROWS, p -> x.drift(0, 0, 0, 2, p));
        fraction("the second", THROWS, THROWS, p -> x.drift(0, 0, 2, 2, p));
        fraction("both", THROWS, THROWS, p -> x.drift(0, 2, 3, 4, p));
        SliceDrift y = two(these(NONE), these(NONE));
        fraction("with rows, though without values", 0, 1, p -> y.drift(0, 0, 1, 2, p));
    }

    private static void promise11Refused() {
        sentence("promise 11: UNKNOWN; OUTSIDE; ArithmeticException");
        SliceDrift x = two(these(3), these(4));
        due("UNKNOWN ahead of OUTSIDE times", UNKNOWN, () -> x.drift(5, 2, 1, 0, 0));
        due("UNKNOWN ahead of OUTSIDE part", UNKNOWN, () -> x.drift(-1, 0, 1, 2, 2));
        due("UNKNOWN ahead of the exception", UNKNOWN, () -> x.drift(5, 5, 6, 7, 0));
        due("OUTSIDE times ahead of the exception", OUTSIDE, () -> x.drift(0, 7, 6, 5, 0));
        due("OUTSIDE part ahead of the exception", OUTSIDE, () -> x.drift(0, 5, 6, 7, 2));
    }

    private static void riseTwoOneNothing() {
        sentence("for each pair 2, if the second one's VALUE is greater, 1 if both are like, 0 else");
        SliceDrift greater = two(these(5), these(6));
        due("greater", 2, () -> greater.rise(0, 0, 1, 2));
        SliceDrift like = two(these(5), these(5));
        due("like", 1, () -> like.rise(0, 0, 1, 2));
        SliceDrift less = two(these(5), these(4));
        due("less", 0, () -> less.rise(0, 0, 1, 2));
        SliceDrift least = two(these(0), these(9));
        due("0 to 9", 2, () -> least.rise(0, 0, 1, 2));
        SliceDrift most = two(these(9), these(0));
        due("9 to 0", 0, () -> most.rise(0, 0, 1, 2));
        SliceDrift all = two(these(0, 5, 9), these(0, 5, 9));
        due("each pair", 1 + 2 + 2 + 1 + 2 + 1, () -> all.rise(0, 0, 1, 2));
        SliceDrift full = two(many(24, 0), many(24, 9));
        due("24 by 24", 1152, () -> full.rise(0, 0, 1, 2));
    }

    private static void riseWithValuesAlone() {
        sentence("RANKS: of ROWS with VALUES alone");
        SliceDrift x = two(these(0, NONE), these(NONE, 0, NONE));
        due("one pair", 1, () -> x.rise(0, 0, 1, 2));
        SliceDrift y = two(these(0), these(NONE));
        due("sort 10 is not greater", 0, () -> y.rise(0, 0, 1, 2));
        SliceDrift z = two(these(NONE), these(NONE));
        due("nor like", 0, () -> z.rise(0, 0, 1, 2));
    }

    private static void riseOfNone() {
        sentence("promise 12: RISE, of a WINDOW without ROWS");
        SliceDrift x = two(these(1), these(2));
        due("the first", 0, () -> x.rise(0, 0, 0, 2));
        due("the second", 0, () -> x.rise(0, 0, 2, 2));
        due("both", 0, () -> x.rise(0, 5, 6, 7));
    }

    private static void promise12Refused() {
        sentence("promise 12: UNKNOWN; OUTSIDE");
        SliceDrift x = two(these(1), these(2));
        due("UNKNOWN ahead of OUTSIDE", UNKNOWN, () -> x.rise(5, 2, 1, 0));
        due("UNKNOWN ahead of OUTSIDE, column -1", UNKNOWN, () -> x.rise(-1, 0, 1, 1001));
    }

    private static void oddsNotLess() {
        sentence("ODDS: how many would have a RISE that is not less, by all these ways");
        // 1 | 2: 2 of 2, 0 of the other way
        SliceDrift greatest = two(these(1), these(2));
        fraction("the greatest", 1, 2, p -> greatest.odds(0, 0, 1, 2, p));
        SliceDrift least = two(these(2), these(1));
        fraction("the least: all are not less", 1, 1, p -> least.odds(0, 0, 1, 2, p));
        SliceDrift like = two(these(7), these(7));
        fraction("all like: all are not less", 1, 1, p -> like.odds(0, 0, 1, 2, p));
        // 2 | 1 3 is 2; 1 gives 4, 3 gives 0
        SliceDrift middle = two(these(2), these(1, 3));
        fraction("between", 2, 3, p -> middle.odds(0, 0, 1, 2, p));
        // 1 | 1 2 is 3: either of the two like ones is a way of its own
        SliceDrift twice = two(these(1), these(1, 2));
        fraction("like ones are ways of their own", 2, 3, p -> twice.odds(0, 0, 1, 2, p));
        // 0 2 | 1 3 is 6; of 01 8, 02 6, 03 4, 12 4, 13 2, 23 0 two are not less
        SliceDrift four = two(these(0, 2), these(1, 3));
        fraction("of six ways", 1, 3, p -> four.odds(0, 0, 1, 2, p));
        SliceDrift outer = two(these(0, 3), these(1, 2));
        fraction("of six ways, two with the same rise", 2, 3, p -> outer.odds(0, 0, 1, 2, p));
        SliceDrift inner = two(these(1, 2), these(0, 3));
        fraction("the other of these two", 2, 3, p -> inner.odds(0, 0, 1, 2, p));
        // 0 4 | 1 2 3 is 6; of 01 12, 02 10, 03 8, 04 6, 12 8, 13 6, 14 4, 23 4, 24 2, 34 0 six are not less
        SliceDrift five = two(these(0, 4), these(1, 2, 3));
        fraction("of ten ways", 3, 5, p -> five.odds(0, 0, 1, 2, p));
    }

    private static void oddsAsManyAsTheFirst() {
        sentence("ODDS: of all ways to choose as many as the first WINDOW has out of those of both");
        // 1 2 | 3 is 4, the greatest of three ways; 1 | 2 3 the same
        SliceDrift x = two(these(1, 2), these(3));
        fraction("two of three", 1, 3, p -> x.odds(0, 0, 1, 2, p));
        SliceDrift y = two(these(1), these(2, 3));
        fraction("one of three", 1, 3, p -> y.odds(0, 0, 1, 2, p));
        SliceDrift z = two(these(0, 1, 2), these(3, 4, 5, 6));
        fraction("three of seven", 1, 35, p -> z.odds(0, 0, 1, 2, p));
        SliceDrift w = two(these(0, 1, 2, 3), these(4, 5, 6));
        fraction("four of seven", 1, 35, p -> w.odds(0, 0, 1, 2, p));
    }

    private static void oddsOfNone() {
        sentence("ODDS: of a WINDOW without ROWS there is one way, and it is not less");
        SliceDrift x = two(these(1, 2), these(3, 4));
        fraction("the first", 1, 1, p -> x.odds(0, 0, 0, 2, p));
        fraction("the second", 1, 1, p -> x.odds(0, 0, 2, 2, p));
        fraction("both", 1, 1, p -> x.odds(0, 5, 6, 7, p));
    }

    private static void oddsWithValuesAlone() {
        sentence("ODDS: of ROWS with VALUES alone");
        SliceDrift x = two(these(1, NONE), these(NONE, 2, NONE));
        fraction("one of two", 1, 2, p -> x.odds(0, 0, 1, 2, p));
        fraction("all lacking", 1, 1, p -> x.odds(1, 0, 1, 2, p));
    }

    private static void oddsOfTwenty() {
        sentence("ODDS of 20 ROWS");
        // all below, and all apart from the others: only one way has the greatest rise
        for (int first = 0; first <= 20; first++) {
            SliceDrift x = two(many(first, 0), many(20 - first, 9));
            fraction("the lowest " + first, 1, choose(20, first), p -> x.odds(0, 0, 1, 2, p));
            SliceDrift y = two(many(first, 9), many(20 - first, 0));
            fraction("the highest " + first, 1, 1, p -> y.odds(0, 0, 1, 2, p));
        }
        // the highest have the least rise: every way counts; the lowest have the greatest
        for (int kinds = 2; kinds <= 10; kinds++) {
            for (int first = 1; first < 20; first++) {
                SliceDrift x = new SliceDrift();
                SliceDrift y = new SliceDrift();
                for (int n = 0; n < 20; n++) {
                    add(x, n < first ? 0 : 1, false, (19 - n) * kinds / 20);
                    add(y, n < first ? 0 : 1, false, n * kinds / 20);
                }
                fraction("falling, " + kinds + ", " + first, 1, 1, p -> x.odds(0, 0, 1, 2, p));
                long lowest = waysToTakeTheLowest(kinds, first);
                long divisor = BigInteger.valueOf(lowest).gcd(BigInteger.valueOf(choose(20, first))).longValue();
                fraction("rising, " + kinds + ", " + first, lowest / divisor, choose(20, first) / divisor,
                    p -> y.odds(0, 0, 1, 2, p));
            }
        }
    }

    /** Of the like ones at the border any will do. */
    private static long waysToTakeTheLowest(int kinds, int first) {
        int border = (first - 1) * kinds / 20;
        int below = 0;
        int like = 0;
        for (int n = 0; n < 20; n++) {
            below += n * kinds / 20 < border ? 1 : 0;
            like += n * kinds / 20 == border ? 1 : 0;
        }
        return choose(like, first - below);
    }

    private static long choose(int of, int chosen) {
        return chosen == 0 || chosen == of ? 1 : choose(of - 1, chosen - 1) + choose(of - 1, chosen);
    }

    private static void promise13MoreThanTwenty() {
        sentence("promise 13: STATE: both WINDOWS have more than 20 such ROWS together");
        int[][] sizes = {{10, 10}, {0, 20}, {20, 0}, {1, 19}};
        for (int[] s : sizes) {
            SliceDrift x = two(many(s[0], 4), many(s[1], 4));
            String name = s[0] + " and " + s[1];
            fraction(name, 1, 1, p -> x.odds(0, 0, 1, 2, p));
            add(x, 0, false, NONE, 1);
            add(x, 1, false, NONE, 1);
            fraction(name + ", and some without a value", 1, 1, p -> x.odds(0, 0, 1, 2, p));
            add(x, 2, false, 4);
            fraction(name + ", and one behind both", 1, 1, p -> x.odds(0, 0, 1, 2, p));
            fraction(name + " and one more", STATE, STATE, p -> x.odds(0, 0, 1, 3, p));
            fraction(name + " and one more, all first", STATE, STATE, p -> x.odds(0, 0, 3, 3, p));
            fraction(name + " and one more, all second", STATE, STATE, p -> x.odds(0, 0, 0, 3, p));
        }
        SliceDrift full = two(many(24, 0), many(24, 9));
        due("48", STATE, () -> full.odds(0, 0, 1, 2, 0));
        fraction("48 without values", 1, 1, p -> full.odds(1, 0, 1, 2, p));
        due("but the rise is told", 1152, () -> full.rise(0, 0, 1, 2));
    }

    private static void promise13Refused() {
        sentence("promise 13: UNKNOWN; OUTSIDE; STATE");
        SliceDrift x = two(many(11, 0), many(10, 9));
        due("STATE", STATE, () -> x.odds(0, 0, 1, 2, 0));
        due("UNKNOWN ahead of STATE", UNKNOWN, () -> x.odds(5, 0, 1, 2, 0));
        due("UNKNOWN ahead of OUTSIDE times", UNKNOWN, () -> x.odds(5, 2, 1, 0, 0));
        due("UNKNOWN ahead of OUTSIDE part", UNKNOWN, () -> x.odds(-1, 0, 1, 2, 2));
        due("OUTSIDE part ahead of STATE", OUTSIDE, () -> x.odds(0, 0, 1, 2, 2));
        due("OUTSIDE times ahead of STATE", OUTSIDE, () -> x.odds(0, 0, 1001, 1000, 0));
    }

    private static void promise14Rising() {
        sentence("promise 14: The i-th VALUE, rising");
        SliceDrift x = two(these(), these(9, 3, 0, 3));
        due("0", 0, () -> x.fresh(0, 0, 1, 2, 0));
        due("3", 3, () -> x.fresh(0, 0, 1, 2, 1));
        due("9", 9, () -> x.fresh(0, 0, 1, 2, 2));
        SliceDrift y = two(these(NONE), these(9, 8, 7, 6, 5, 4, 3, 2, 1, 0));
        for (int i = 0; i < 10; i++) {
            int at = i;
            due("of ten, " + i, at, () -> y.fresh(0, 0, 1, 2, at));
        }
    }

    private static void promise14NoneOfTheFirst() {
        sentence("promise 14: that ROWS of the second WINDOW have and none of the first");
        SliceDrift x = two(these(1, 2), these(2, 3));
        due("only 3", 1, () -> x.fresh(0, 0, 1, 2, NONE));
        due("3", 3, () -> x.fresh(0, 0, 1, 2, 0));
        // what a row before the first window has does not count
        add(x, 2, false, 1);
        due("1 is new behind time 1", 1, () -> x.fresh(0, 1, 2, 3, NONE));
        due("1", 1, () -> x.fresh(0, 1, 2, 3, 0));
        due("but not since 0", 0, () -> x.fresh(0, 0, 2, 3, NONE));
        SliceDrift y = two(these(1), these(NONE));
        due("to have none is no value", 0, () -> y.fresh(0, 0, 1, 2, NONE));
        due("no such one", NONE, () -> y.fresh(0, 0, 1, 2, 0));
    }

    private static void promise14None() {
        sentence("promise 14: NONE");
        SliceDrift x = two(these(1, 2), these(2, 3));
        each("i", NONE, i -> x.fresh(0, 0, 1, 2, i), 1, 2, 9, 10, 11, MOST_INT);
        SliceDrift y = two(these(), these(0, 1, 2, 3, 4, 5, 6, 7, 8, 9));
        each("of ten, i", NONE, i -> y.fresh(0, 0, 1, 2, i), 10, 11, MOST_INT);
    }

    private static void promise14HowMany() {
        sentence("promise 14: i = NONE: how many");
        SliceDrift x = two(these(), these(0, 1, 2, 3, 4, 5, 6, 7, 8, 9, NONE));
        due("ten", 10, () -> x.fresh(0, 0, 1, 2, NONE));
        due("none", 0, () -> x.fresh(0, 0, 2, 2, NONE));
        due("none in another column", 0, () -> x.fresh(1, 0, 1, 2, NONE));
    }

    private static void promise14Refused() {
        sentence("promise 14: UNKNOWN; OUTSIDE");
        SliceDrift x = two(these(1, 2), these(2, 3));
        each("i", OUTSIDE, i -> x.fresh(0, 0, 1, 2, i), -2, -3, LEAST_INT, UNKNOWN);
        due("UNKNOWN ahead of OUTSIDE times", UNKNOWN, () -> x.fresh(5, 2, 1, 0, 0));
        due("UNKNOWN ahead of OUTSIDE i", UNKNOWN, () -> x.fresh(-1, 0, 1, 2, -2));
        due("OUTSIDE times ahead of an answer of NONE", OUTSIDE, () -> x.fresh(0, 2, 1, 0, 99));
    }

    /** Labels in column 1, guesses in column 3, as pairs of these; the first ones at time 0, the others at time 1. */
    private static SliceDrift guessed(int[][] first, int[][] second) {
        SliceDrift x = new SliceDrift();
        for (int[] pair : first) {
            add(x, 0, false, NONE, pair[0], NONE, pair[1]);
        }
        for (int[] pair : second) {
            add(x, 1, false, NONE, pair[0], NONE, pair[1]);
        }
        return x;
    }

    private static void shift(String what, long above, long below, int[][] first, int[][] second) {
        SliceDrift x = guessed(first, second);
        fraction(what, above, below, p -> x.shift(1, 3, 0, 1, 2, p));
    }

    /** t is 1, f is 0. */
    private static final int[][] PERFECT = {{1, 1}, {0, 0}};

    private static void shiftOfShares() {
        sentence("SHIFT: (q - f) / (t - f)");
        // t 2/3, f 1/4, q 1/2: (1/4) / (5/12)
        int[][] first = {{1, 1}, {1, 1}, {1, 0}, {0, 1}, {0, 0}, {0, 0}, {0, 0}};
        shift("3/5", 3, 5, first, new int[][] {{1, 1}, {0, 0}});
        shift("q is f", 0, 1, first, new int[][] {{1, 1}, {0, 0}, {0, 0}, {0, 0}});
        shift("q is t", 1, 1, first, new int[][] {{1, 1}, {1, 1}, {0, 0}});
        // (0 - 1/4) / (5/12), (1 - 1/4) / (5/12)
        shift("q is 0", -3, 5, first, new int[][] {{0, 0}});
        shift("q is 1", 9, 5, first, new int[][] {{0, 1}});
    }

    private static void shiftOfYesAndNo() {
        sentence("SHIFT: VALUE 1 is yes, 0 no");
        shift("all yes", 1, 1, PERFECT, new int[][] {{1, 1}});
        shift("all no", 0, 1, PERFECT, new int[][] {{1, 0}});
        shift("half", 1, 2, PERFECT, new int[][] {{1, 0}, {1, 1}});
    }

    private static void shiftOfOthers() {
        sentence("SHIFT: ROWS with others, or none, in one that is asked do not count there");
        int[][] second = {{1, 1}, {1, 0}, {1, 0}};
        shift("only yes and no", 1, 3, PERFECT, second);
        for (int other : new int[] {2, 9, NONE}) {
            String name = " " + other;
            shift("label" + name, 1, 3, new int[][] {{1, 1}, {0, 0}, {other, 1}, {other, 0}}, second);
            shift("guess for yes" + name, 1, 3, new int[][] {{1, 1}, {0, 0}, {1, other}}, second);
            shift("guess for no" + name, 1, 3, new int[][] {{1, 1}, {0, 0}, {0, other}}, second);
            shift("guess in the second" + name, 1, 3, PERFECT,
                new int[][] {{1, 1}, {1, 0}, {1, 0}, {1, other}, {0, other}});
        }
    }

    private static void shiftLabelIsNotAskedInTheSecond() {
        sentence("SHIFT: q the share of guesses yes in the second WINDOW, where no label is asked");
        shift("labels of all kinds", 3, 5, PERFECT, new int[][] {{0, 1}, {1, 1}, {NONE, 1}, {5, 0}, {9, 0}});
        shift("no labels", 1, 2, PERFECT, new int[][] {{NONE, 1}, {NONE, 0}});
    }

    private static void shiftBothSigns() {
        sentence("SHIFT: PARTS with the sign above, if t is below f");
        int[][] wrong = {{1, 0}, {1, 1}, {1, 0}, {0, 1}};
        // t 1/3, f 1: (q - 1) / (-2/3)
        shift("q 0", 3, 2, wrong, new int[][] {{1, 0}});
        shift("q 1", 0, 1, wrong, new int[][] {{1, 1}});
        // t 0, f 1/2: (q - 1/2) / (-1/2)
        int[][] half = {{1, 0}, {0, 1}, {0, 0}};
        shift("q above f", -1, 1, half, new int[][] {{1, 1}});
        shift("q below f", 1, 3, half, new int[][] {{1, 1}, {1, 0}, {1, 0}});
    }

    private static void promise15BothAreOne() {
        sentence("promise 15: UNKNOWN (also: both COLUMNS are one)");
        SliceDrift x = guessed(PERFECT, PERFECT);
        for (int column = 0; column < 5; column++) {
            int c = column;
            fraction("column " + c, UNKNOWN, UNKNOWN, p -> x.shift(c, c, 0, 1, 2, p));
        }
        due("unlike ones", 1, () -> x.shift(1, 3, 0, 1, 2, 0));
        due("turned round", 1, () -> x.shift(3, 1, 0, 1, 2, 0));
        each("both are no column", UNKNOWN, c -> x.shift(c, c, 0, 1, 2, 0), -1, 5, LEAST_INT, MOST_INT);
    }

    private static void promise15TheSame() {
        sentence("promise 15: STATE: t and f are the same");
        shift("both 0", STATE, STATE, new int[][] {{1, 0}, {0, 0}}, PERFECT);
        shift("both 1", STATE, STATE, new int[][] {{1, 1}, {0, 1}}, PERFECT);
        shift("2/4 and 1/2", STATE, STATE, new int[][] {{1, 1}, {1, 1}, {1, 0}, {1, 0}, {0, 1}, {0, 0}}, PERFECT);
        // 2/5 and 1/2 are nearly so: (1/2 - 1/2) / (..)
        shift("2/5 and 1/2", 0, 1, new int[][] {{1, 1}, {1, 1}, {1, 0}, {1, 0}, {1, 0}, {0, 1}, {0, 0}}, PERFECT);
    }

    private static void promise15NoRows() {
        sentence("promise 15: ArithmeticException: t, f or q has no ROWS");
        shift("all have", 1, 2, PERFECT, PERFECT);
        shift("no t", THROWS, THROWS, new int[][] {{0, 0}, {0, 1}}, PERFECT);
        shift("no t that counts", THROWS, THROWS, new int[][] {{0, 0}, {1, NONE}, {1, 2}, {2, 1}}, PERFECT);
        shift("no f", THROWS, THROWS, new int[][] {{1, 0}, {1, 1}}, PERFECT);
        shift("no f that counts", THROWS, THROWS, new int[][] {{1, 1}, {0, NONE}, {0, 9}, {NONE, 0}}, PERFECT);
        shift("no q", THROWS, THROWS, PERFECT, new int[][] {});
        shift("no q that counts", THROWS, THROWS, PERFECT, new int[][] {{1, NONE}, {0, 2}});
        shift("no first", THROWS, THROWS, new int[][] {}, PERFECT);
        shift("none at all", THROWS, THROWS, new int[][] {}, new int[][] {});
    }

    private static void promise15NoRowsAheadOfState() {
        sentence("promise 15: ArithmeticException (ahead of STATE)");
        shift("t is f, and no q", THROWS, THROWS, new int[][] {{1, 1}, {0, 1}}, new int[][] {});
        shift("t is f, and no q that counts", THROWS, THROWS, new int[][] {{1, 0}, {0, 0}}, new int[][] {{1, 2}});
    }

    private static void promise15Refused() {
        sentence("promise 15: UNKNOWN; OUTSIDE; STATE; ArithmeticException");
        SliceDrift same = guessed(new int[][] {{1, 1}, {0, 1}}, PERFECT);
        due("STATE", STATE, () -> same.shift(1, 3, 0, 1, 2, 0));
        due("UNKNOWN ahead of STATE", UNKNOWN, () -> same.shift(1, 5, 0, 1, 2, 0));
        due("OUTSIDE times ahead of STATE", OUTSIDE, () -> same.shift(1, 3, 0, 1, 1001, 0));
        due("OUTSIDE part ahead of STATE", OUTSIDE, () -> same.shift(1, 3, 0, 1, 2, 2));
        SliceDrift none = new SliceDrift();
        due("the exception", THROWS, () -> none.shift(1, 3, 0, 1, 2, 0));
        due("UNKNOWN label ahead of the exception", UNKNOWN, () -> none.shift(5, 3, 0, 1, 2, 0));
        due("UNKNOWN guess ahead of the exception", UNKNOWN, () -> none.shift(1, -1, 0, 1, 2, 0));
        due("UNKNOWN both ahead of the exception", UNKNOWN, () -> none.shift(3, 3, 0, 1, 2, 0));
        due("OUTSIDE times ahead of the exception", OUTSIDE, () -> none.shift(1, 3, 2, 1, 2, 0));
        due("OUTSIDE part ahead of the exception", OUTSIDE, () -> none.shift(1, 3, 0, 1, 2, -1));
        due("UNKNOWN label ahead of OUTSIDE", UNKNOWN, () -> none.shift(-1, 3, 2, 1, 0, 2));
        due("UNKNOWN guess ahead of OUTSIDE", UNKNOWN, () -> none.shift(1, 5, 2, 1, 0, 2));
        due("UNKNOWN both ahead of OUTSIDE", UNKNOWN, () -> none.shift(3, 3, 2, 1, 0, 2));
    }

    private static void ordered(SliceDrift x, int... want) {
        for (int i = 0; i < 5; i++) {
            int at = i;
            due("place " + i, want[i], () -> x.order(0, 1, 2, at));
        }
    }

    private static void promise16GreatestFirst() {
        sentence("promise 16: The i-th COLUMN by DRIFT, the greatest first");
        SliceDrift x = new SliceDrift();
        addMany(x, 4, 0, false, 0, 0, 0, 0, 0);
        add(x, 1, false, 0, 1, 0, 1, 1);
        add(x, 1, false, 0, 1, 0, 1, NONE);
        add(x, 1, false, 0, 0, 0, 1, 2);
        add(x, 1, false, 0, 0, 1, 1, 0);
        // 0, 1/2, 1/4, 1, 3/4
        ordered(x, 3, 4, 1, 2, 0);
    }

    private static void promise16OfLikeOnesTheLeast() {
        sentence("promise 16: of like ones the least");
        SliceDrift x = new SliceDrift();
        addMany(x, 2, 0, false);
        addMany(x, 3, 1, false);
        ordered(x, 0, 1, 2, 3, 4);
        x.put(2, 3, 5);
        x.put(3, 1, 9);
        // columns 1 and 3 by 1/3 each
        ordered(x, 1, 3, 0, 2, 4);
        SliceDrift y = new SliceDrift();
        add(y, 0, false, 0, 0, 0, 0, 0);
        add(y, 1, false, 9, 8, 7, 6, NONE);
        ordered(y, 0, 1, 2, 3, 4);
    }

    private static void promise16NoRows() {
        sentence("promise 16: ArithmeticException likewise");
        SliceDrift x = two(these(3), these(4));
        for (int i = 0; i < 5; i++) {
            int at = i;
            due("the first has none, " + i, THROWS, () -> x.order(0, 0, 2, at));
            due("the second has none, " + i, THROWS, () -> x.order(0, 2, 2, at));
            due("neither has any, " + i, THROWS, () -> x.order(5, 6, 7, at));
        }
    }

    private static void promise16Refused() {
        sentence("promise 16: UNKNOWN: i is not 0 .. 4; OUTSIDE");
        SliceDrift x = two(these(3), these(4));
        refusedBeside("i", UNKNOWN, 0, 4, i -> x.order(0, 1, 2, i));
        refusedBeside("UNKNOWN ahead of OUTSIDE, i", UNKNOWN, 0, 4, i -> x.order(2, 1, 0, i));
        refusedBeside("UNKNOWN ahead of the exception, i", UNKNOWN, 0, 4, i -> x.order(5, 6, 7, i));
        due("OUTSIDE ahead of the exception", OUTSIDE, () -> x.order(7, 6, 7, 0));
        due("OUTSIDE ahead of the exception, to", OUTSIDE, () -> x.order(5, 6, 1001, 4));
    }
}

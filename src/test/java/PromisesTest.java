/** Promise by promise: ordinary inputs, the document's edges, wrong inputs; all answers worked out by hand. */
public final class PromisesTest extends Sentences {
    public static void main(String[] args) {
        promise1();
        promise2();
        promise3();
        promise4();
        promise5();
        promise5Order();
        promise5Most();
        promise6();
        promise7();
        promise8();
        promise9();
        promise10();
        promise11();
        promise12();
        promise13();
        promise14();
        promise15();
        promise16();
        promise17Steps();
        promise17Alarms();
        promise18();
        promise19();
        CHECK.end();
    }

    private static void promise1() {
        CHECK.begin("promise 1");
        SliceDrift x = new SliceDrift();
        for (int what = 0; what <= 5; what++) {
            int w = what;
            due("count " + what, 0, () -> x.count(w));
        }
        due("no row", UNKNOWN, () -> x.of(0, 0));
        due("no row to put", UNKNOWN, () -> x.put(0, 0, 0));
        due("no list: slice", UNKNOWN, () -> x.slice(0, 0));
        due("no list: member", UNKNOWN, () -> x.member(0, 0));
        due("no list: share", UNKNOWN, () -> x.share(0, 0, 0));
        due("no watch", UNKNOWN, () -> x.step(0, 3));
        due("no rows in a window", 0, () -> x.window(0, 1000));
        due("an empty list", 0, () -> x.slices(1, 2));
        due("nothing to drift", THROWS, () -> x.drift(0, 0, 500, 1000, 0));
        due("no base", STATE, () -> x.watch(0, 999, 1, 1, 1));
    }

    private static void promise2() {
        CHECK.begin("promise 2");
        SliceDrift x = new SliceDrift();
        due("time -1", OUTSIDE, () -> x.row(-1, true));
        due("time 1000", OUTSIDE, () -> x.row(1000, true));
        due("least time", OUTSIDE, () -> x.row(LEAST_INT, false));
        due("nothing changed", 0, () -> x.count(0));
        for (int n = 0; n < 48; n++) {
            int want = n;
            due("row " + n, want, () -> x.row(want % 2 == 0 ? 999 : 0, want % 3 == 0));
        }
        due("a 49th", ROOM, () -> x.row(0, true));
        due("OUTSIDE ahead of ROOM", OUTSIDE, () -> x.row(1000, true));
        due("48 stay", 48, () -> x.count(0));
        due("time of the last", 0, () -> x.of(47, 5));
        due("hits", 16, () -> x.count(1));
    }

    private static void promise3() {
        CHECK.begin("promise 3");
        SliceDrift x = new SliceDrift();
        x.row(3, false);
        x.row(2, true);
        due("first", 10, () -> x.put(0, 4, 9));
        due("again", 9, () -> x.put(0, 4, 0));
        due("taken away", 0, () -> x.put(0, 4, NONE));
        due("none again", 10, () -> x.put(0, 4, NONE));
        due("another column", 10, () -> x.put(0, 0, 5));
        due("another row", 10, () -> x.put(1, 0, 5));
        due("row 2", UNKNOWN, () -> x.put(2, 0, 1));
        due("row -1", UNKNOWN, () -> x.put(-1, 0, 1));
        due("row 64", UNKNOWN, () -> x.put(64, 0, 1));
        due("column 5", UNKNOWN, () -> x.put(0, 5, 1));
        due("column -1", UNKNOWN, () -> x.put(0, -1, 1));
        due("value 10", OUTSIDE, () -> x.put(0, 0, 10));
        due("value -2", OUTSIDE, () -> x.put(0, 0, -2));
        due("UNKNOWN row ahead of OUTSIDE", UNKNOWN, () -> x.put(2, 0, 10));
        due("UNKNOWN column ahead of OUTSIDE", UNKNOWN, () -> x.put(0, 5, -2));
        due("refused: nothing changed", 5, () -> x.of(0, 0));
    }

    private static void promise4() {
        CHECK.begin("promise 4");
        SliceDrift x = new SliceDrift();
        add(x, 999, true, 1, 2, 3, NONE, 9);
        add(x, 0, false);
        int[] first = {1, 2, 3, 10, 9, 999, 1};
        int[] second = {10, 10, 10, 10, 10, 0, 0};
        for (int what = 0; what <= 6; what++) {
            int w = what;
            due("row 0, " + what, first[what], () -> x.of(0, w));
            due("row 1, " + what, second[what], () -> x.of(1, w));
        }
        due("what 7", UNKNOWN, () -> x.of(0, 7));
        due("what -1", UNKNOWN, () -> x.of(0, -1));
        due("row 2", UNKNOWN, () -> x.of(2, 0));
        due("row -1", UNKNOWN, () -> x.of(-1, 5));
        due("far off", UNKNOWN, () -> x.of(MOST_INT, LEAST_INT));
    }

    /** Column 0: 1 1 1 2, column 1: 0 0 3 3, the others lacking; hits at rows 0 and 3. */
    private static SliceDrift fourRows() {
        SliceDrift x = new SliceDrift();
        add(x, 0, true, 1, 0);
        add(x, 1, false, 1, 0);
        add(x, 2, false, 1, 3);
        add(x, 3, true, 2, 3);
        return x;
    }

    private static void promise5() {
        CHECK.begin("promise 5");
        SliceDrift x = fourRows();
        // one condition: 0/1, 0/2, 1/0, 1/3, and the lacking ones of columns 2 .. 4
        due("all of one", 7, () -> x.slices(1, 1));
        due("of two rows", 6, () -> x.slices(2, 1));
        due("of three", 4, () -> x.slices(3, 1));
        due("of four", 3, () -> x.slices(4, 1));
        due("of five", 0, () -> x.slices(5, 1));
        // of two conditions only 1 & 3 is new: 1 & 0 has the rows of 0, 2 & 3 those of 2
        due("of both", 8, () -> x.slices(1, 2));
        due("of both, two rows", 6, () -> x.slices(2, 2));
        due("least 0", OUTSIDE, () -> x.slices(0, 1));
        due("least 49", OUTSIDE, () -> x.slices(49, 1));
        due("deep 0", OUTSIDE, () -> x.slices(1, 0));
        due("deep 3", OUTSIDE, () -> x.slices(1, 3));
        due("refused: the list stays", 6, () -> x.count(2));
        due("least 48", 0, () -> x.slices(48, 2));
        due("made anew", 0, () -> x.count(2));
    }

    private static void promise5Order() {
        CHECK.begin("promise 5, order");
        SliceDrift x = fourRows();
        x.slices(1, 2);
        // bounds: 1 & 3: 2/5; 0=1: 3/7; then 1/2: 2 = lacking, 3 = lacking, 4 = lacking of 4 rows,
        // 1=0 and 1=3 of 2 rows; 0=2: 3/5
        listed(x, 0, 0, 1, 1, 3, 1, 0);
        listed(x, 1, 0, 1, NONE, NONE, 3, 1);
        listed(x, 2, 2, 10, NONE, NONE, 4, 2);
        listed(x, 3, 3, 10, NONE, NONE, 4, 2);
        listed(x, 4, 4, 10, NONE, NONE, 4, 2);
        listed(x, 5, 1, 0, NONE, NONE, 2, 1);
        listed(x, 6, 1, 3, NONE, NONE, 2, 1);
        listed(x, 7, 0, 2, NONE, NONE, 1, 1);

        // all are hits: 1 of 1 gives 3/5, 2 of 2 gives 4/6; the like ones by column and sort
        SliceDrift y = new SliceDrift();
        add(y, 0, true, 1, 1, 1, 1, 1);
        add(y, 0, true, 2, 1, 2, 2, 2);
        add(y, 0, true, 1, 2, 2, 3, 3);
        int[][] want = {{0, 1, 1, 1}, {0, 1, 2, 2}, {0, 2, NONE, NONE}, {1, 1, 2, 2}, {1, 2, NONE, NONE},
            {2, 1, NONE, NONE}, {3, 1, NONE, NONE}, {3, 2, NONE, NONE}, {3, 3, NONE, NONE}, {4, 1, NONE, NONE},
            {4, 2, NONE, NONE}, {4, 3, NONE, NONE}, {0, 1, NONE, NONE}, {1, 1, NONE, NONE}, {2, 2, NONE, NONE}};
        due("of one row or more", want.length, () -> y.slices(1, 2));
        for (int i = 0; i < want.length; i++) {
            listed(y, i, want[i]);
        }
    }

    /** As many slices as there can be: every sort in every column, and no two rows share sorts in two columns. */
    private static void promise5Most() {
        CHECK.begin("promise 5, most");
        SliceDrift x = new SliceDrift();
        for (int n = 0; n < 48; n++) {
            int a = n % 11, b = a + n / 11;
            add(x, n, false, lacking10(a), lacking10(b), lacking10(a + b), lacking10(a + 2 * b),
                lacking10(a + 3 * b));
        }
        due("all", 55 + 480, () -> x.slices(1, 2));
        listed(x, 0, 0, 0, NONE, NONE, 5, 0);
        listed(x, 534, 3, 10, 4, 10, 1, 0);
        due("the last one's row", 21, () -> x.member(534, 0));
        due("one behind it", UNKNOWN, () -> x.slice(535, 4));
        due("of two rows", 55, () -> x.slices(2, 2));
        due("of five: the sorts of 0 to 3 in column 0 and four of each other column", 20, () -> x.slices(5, 2));
        due("all again", 55 + 480, () -> x.slices(1, 2));
    }

    private static int lacking10(int number) {
        return number % 11 == 10 ? NONE : number % 11;
    }

    private static void promise6() {
        CHECK.begin("promise 6");
        SliceDrift x = fourRows();
        x.slices(1, 2);
        due("what -1", UNKNOWN, () -> x.slice(0, -1));
        due("what 6", UNKNOWN, () -> x.slice(0, 6));
        due("i -1", UNKNOWN, () -> x.slice(-1, 0));
        due("i 8", UNKNOWN, () -> x.slice(8, 0));
        due("far off", UNKNOWN, () -> x.slice(MOST_INT, 0));
        x.put(2, 0, 7);
        add(x, 9, true, 1, 3);
        listed(x, 0, 0, 1, 1, 3, 1, 0);
        due("as it was made", 2, () -> x.member(0, 0));
        due("rows as made", 4, () -> x.slice(2, 4));
        due("hits as made", 2, () -> x.slice(2, 5));
        x.slices(0, 1);
        listed(x, 0, 0, 1, 1, 3, 1, 0);
        x.slices(5, 1);
        listed(x, 0, 2, 10, NONE, NONE, 5, 3);
        due("the old is gone", UNKNOWN, () -> x.slice(3, 0));
    }

    private static void promise7() {
        CHECK.begin("promise 7");
        SliceDrift x = fourRows();
        x.slices(2, 1);
        // of least 2: 0=1 first, 1=3 last
        due("first", 0, () -> x.member(0, 0));
        due("third", 2, () -> x.member(0, 2));
        due("no fourth", NONE, () -> x.member(0, 3));
        due("far behind", NONE, () -> x.member(0, MOST_INT));
        due("last: first", 2, () -> x.member(5, 0));
        due("last: second", 3, () -> x.member(5, 1));
        due("last: no third", NONE, () -> x.member(5, 2));
        due("k -1", OUTSIDE, () -> x.member(0, -1));
        due("i 6", UNKNOWN, () -> x.member(6, 0));
        due("UNKNOWN ahead of OUTSIDE", UNKNOWN, () -> x.member(-1, -1));
        x.put(0, 0, 5);
        due("that it had", 0, () -> x.member(0, 0));
    }

    private static void promise8() {
        CHECK.begin("promise 8");
        SliceDrift x = fourRows();
        x.slices(1, 2);
        fraction("no hits", 0, 1, p -> x.share(0, 0, p));
        fraction("bound of no hits", 2, 5, p -> x.share(0, 1, p));
        fraction("1 of 3", 1, 3, p -> x.share(1, 0, p));
        fraction("bound of 1 of 3", 3, 7, p -> x.share(1, 1, p));
        fraction("2 of 4", 1, 2, p -> x.share(2, 0, p));
        fraction("bound of 2 of 4", 1, 2, p -> x.share(2, 1, p));
        fraction("1 of 1", 1, 1, p -> x.share(7, 0, p));
        fraction("bound of 1 of 1", 3, 5, p -> x.share(7, 1, p));
        due("side 2", OUTSIDE, () -> x.share(0, 2, 0));
        due("side -1", OUTSIDE, () -> x.share(0, -1, 0));
        due("part 2", OUTSIDE, () -> x.share(0, 0, 2));
        due("part -1", OUTSIDE, () -> x.share(0, 0, -1));
        due("UNKNOWN ahead of OUTSIDE", UNKNOWN, () -> x.share(8, 2, 2));
        due("i -1", UNKNOWN, () -> x.share(-1, 0, 0));
        x.put(3, 0, 1);
        x.row(0, true);
        fraction("as it was made", 1, 3, p -> x.share(1, 0, p));
    }

    private static void promise9() {
        CHECK.begin("promise 9");
        SliceDrift x = fourRows();
        fraction("1/3 - 1", -2, 3, p -> x.gap(0, 1, 2, p));
        fraction("1 - 1/3", 2, 3, p -> x.gap(0, 2, 1, p));
        fraction("1/2 - 1/2", 0, 1, p -> x.gap(1, 0, 3, p));
        fraction("of itself", 0, 1, p -> x.gap(0, 1, 1, p));
        due("none of the first", THROWS, () -> x.gap(0, 0, 1, 0));
        due("none of the other", THROWS, () -> x.gap(0, 1, 10, 1));
        due("none of either", THROWS, () -> x.gap(4, 0, 1, 1));
        due("column 5", UNKNOWN, () -> x.gap(5, 1, 2, 0));
        due("column -1", UNKNOWN, () -> x.gap(-1, 11, 2, 3));
        due("sort 11", OUTSIDE, () -> x.gap(0, 11, 1, 0));
        due("sort -1", OUTSIDE, () -> x.gap(0, -1, 1, 0));
        due("other 11", OUTSIDE, () -> x.gap(0, 1, 11, 0));
        due("other -1", OUTSIDE, () -> x.gap(0, 1, -1, 0));
        due("OUTSIDE ahead of the exception", OUTSIDE, () -> x.gap(0, 0, 1, 2));
        x.row(0, false);
        fraction("of those lacking", 1, 3, p -> x.gap(0, 1, 10, p));
    }

    private static void promise10() {
        CHECK.begin("promise 10");
        SliceDrift x = new SliceDrift();
        x.row(0, true);
        x.row(999, true);
        x.row(5, false);
        x.row(5, false);
        due("all", 4, () -> x.window(0, 1000));
        due("its beginning is in", 2, () -> x.window(5, 6));
        due("its end is not", 1, () -> x.window(0, 5));
        due("of nothing", 0, () -> x.window(5, 5));
        due("at the end", 0, () -> x.window(1000, 1000));
        due("below the end", 1, () -> x.window(999, 1000));
        due("turned round", OUTSIDE, () -> x.window(6, 5));
        due("from -1", OUTSIDE, () -> x.window(-1, 5));
        due("to 1001", OUTSIDE, () -> x.window(0, 1001));
        due("far off", OUTSIDE, () -> x.window(LEAST_INT, MOST_INT));
    }

    private static void promise11() {
        CHECK.begin("promise 11");
        SliceDrift x = new SliceDrift();
        add(x, 0, true, 1);
        add(x, 1, true, 1);
        add(x, 2, true, 2);
        add(x, 10, true, 1);
        add(x, 11, true, NONE);
        // 2/3 and 1/2, 1/3 and 0, 0 and 1/2: (1/6 + 1/3 + 1/2) / 2
        fraction("with one lacking", 1, 2, p -> x.drift(0, 0, 10, 20, p));
        fraction("alike", 0, 1, p -> x.drift(1, 0, 10, 20, p));
        fraction("all apart", 1, 1, p -> x.drift(0, 2, 3, 20, p));
        fraction("2 apart from 1, 1", 1, 3, p -> x.drift(0, 0, 10, 11, p));
        due("first without rows", THROWS, () -> x.drift(0, 5, 10, 20, 0));
        due("second without rows", THROWS, () -> x.drift(0, 0, 10, 10, 1));
        due("column 5", UNKNOWN, () -> x.drift(5, 3, 2, 1, 9));
        due("column -1", UNKNOWN, () -> x.drift(-1, 0, 10, 20, 0));
        due("from behind middle", OUTSIDE, () -> x.drift(0, 11, 10, 20, 0));
        due("middle behind to", OUTSIDE, () -> x.drift(0, 0, 10, 9, 0));
        due("from -1", OUTSIDE, () -> x.drift(0, -1, 10, 20, 0));
        due("to 1001", OUTSIDE, () -> x.drift(0, 0, 10, 1001, 0));
        due("OUTSIDE ahead of the exception", OUTSIDE, () -> x.drift(0, 5, 5, 5, 2));
        due("part -1", OUTSIDE, () -> x.drift(0, 0, 10, 20, -1));
    }

    /** Column 0: 1, 3, lacking before 10; 3, 5, 0, lacking from it on. */
    private static SliceDrift ranked() {
        SliceDrift x = new SliceDrift();
        add(x, 0, true, 1);
        add(x, 1, true, 3);
        add(x, 2, true);
        add(x, 10, true, 3);
        add(x, 11, true, 5);
        add(x, 12, true, 0);
        add(x, 13, true);
        return x;
    }

    private static void promise12() {
        CHECK.begin("promise 12");
        SliceDrift x = ranked();
        // 1: 2 + 2 + 0, 3: 1 + 2 + 0
        due("rise", 7, () -> x.rise(0, 0, 10, 20));
        due("without values", 0, () -> x.rise(1, 0, 10, 20));
        due("first without rows", 0, () -> x.rise(0, 0, 0, 20));
        due("second without rows", 0, () -> x.rise(0, 0, 20, 20));
        due("column 5", UNKNOWN, () -> x.rise(5, 20, 10, 0));
        due("column -1", UNKNOWN, () -> x.rise(-1, 0, 10, 20));
        due("turned round", OUTSIDE, () -> x.rise(0, 10, 0, 20));
        due("to 1001", OUTSIDE, () -> x.rise(0, 0, 10, 1001));
        SliceDrift y = new SliceDrift();
        for (int n = 0; n < 48; n++) {
            add(y, n, true, n < 24 ? 0 : 9);
        }
        due("greatest", 2 * 24 * 24, () -> y.rise(0, 0, 24, 48));
    }

    private static void promise13() {
        CHECK.begin("promise 13");
        SliceDrift x = ranked();
        // of 0 1 3 3 5 two: 01 12, 03 10 (2), 13 7 (2), 05 6, 33 4, 15 4, 35 1 (2): 5 of 10 are not below 7
        fraction("5 of 10", 1, 2, p -> x.odds(0, 0, 10, 20, p));
        fraction("nothing to choose", 1, 1, p -> x.odds(0, 0, 0, 20, p));
        fraction("all to choose", 1, 1, p -> x.odds(0, 0, 20, 20, p));
        fraction("without rows", 1, 1, p -> x.odds(0, 500, 600, 700, p));
        fraction("without values", 1, 1, p -> x.odds(1, 0, 10, 20, p));
        due("column 5", UNKNOWN, () -> x.odds(5, 9, 8, 7, 6));
        due("turned round", OUTSIDE, () -> x.odds(0, 10, 0, 20, 0));
        due("part 2", OUTSIDE, () -> x.odds(0, 0, 10, 20, 2));

        SliceDrift y = new SliceDrift();
        for (int n = 0; n < 20; n++) {
            add(y, n, true, n / 2, n < 10 ? 0 : 9, 9 - n / 2, 4);
        }
        // only the ten least have the greatest rise, and each has it
        fraction("sorted", 1, 184756, p -> y.odds(0, 0, 10, 20, p));
        fraction("two values", 1, 184756, p -> y.odds(1, 0, 10, 20, p));
        fraction("falling", 1, 1, p -> y.odds(2, 0, 10, 20, p));
        fraction("all like", 1, 1, p -> y.odds(3, 0, 10, 20, p));
        fraction("one of twenty", 1, 10, p -> y.odds(0, 0, 1, 20, p));
        fraction("nineteen of twenty", 1, 10, p -> y.odds(0, 0, 19, 20, p));
        fraction("all of twenty", 1, 1, p -> y.odds(0, 0, 20, 20, p));
        fraction("none of twenty", 1, 1, p -> y.odds(0, 0, 0, 20, p));
        // the odd thirteenth is one of two like ones: 2 of 77520
        fraction("thirteen of twenty", 1, 38760, p -> y.odds(0, 0, 13, 20, p));
        add(y, 20, true, NONE, 1);
        fraction("one more without a value", 1, 184756, p -> y.odds(0, 0, 10, 21, p));
        due("21 with values", STATE, () -> y.odds(1, 0, 10, 21, 0));
        due("21 with values in the first alone", STATE, () -> y.odds(1, 0, 21, 21, 1));
        due("OUTSIDE ahead of STATE", OUTSIDE, () -> y.odds(1, 0, 10, 21, -1));
        due("UNKNOWN ahead of STATE", UNKNOWN, () -> y.odds(-1, 0, 10, 21, 0));
    }

    private static void promise14() {
        CHECK.begin("promise 14");
        SliceDrift x = ranked();
        due("how many", 2, () -> x.fresh(0, 0, 10, 20, NONE));
        due("least", 0, () -> x.fresh(0, 0, 10, 20, 0));
        due("next", 5, () -> x.fresh(0, 0, 10, 20, 1));
        due("no more", NONE, () -> x.fresh(0, 0, 10, 20, 2));
        due("far behind", NONE, () -> x.fresh(0, 0, 10, 20, MOST_INT));
        due("lacking is no value", 0, () -> x.fresh(0, 0, 2, 3, NONE));
        due("all are new", 4, () -> x.fresh(0, 0, 0, 13, NONE));
        due("the third of these", 3, () -> x.fresh(0, 0, 0, 13, 2));
        due("none are asked", 0, () -> x.fresh(0, 0, 20, 20, NONE));
        due("i -2", OUTSIDE, () -> x.fresh(0, 0, 10, 20, -2));
        due("turned round", OUTSIDE, () -> x.fresh(0, 0, 10, 9, 0));
        due("column 5", UNKNOWN, () -> x.fresh(5, 0, 10, 9, -2));
        due("column -1", UNKNOWN, () -> x.fresh(-1, 0, 10, 20, 0));
        x.put(5, 0, 9);
        due("nine too", 9, () -> x.fresh(0, 0, 10, 20, 1));
    }

    /** Labels in column 2, guesses in column 4: t is 3/4, f 1/3, q 1/2. */
    private static SliceDrift guessed() {
        SliceDrift x = new SliceDrift();
        int[][] first = {{1, 1}, {1, 1}, {1, 1}, {1, 0}, {0, 1}, {0, 0}, {0, 0}, {2, 1}, {NONE, 1}, {1, 5}, {0, NONE}};
        for (int[] r : first) {
            add(x, 5, true, NONE, NONE, r[0], NONE, r[1]);
        }
        add(x, 10, true, NONE, NONE, 7, NONE, 1);
        add(x, 10, true, NONE, NONE, NONE, NONE, 0);
        add(x, 10, true, NONE, NONE, 1, NONE, 2);
        return x;
    }

    private static void promise15() {
        CHECK.begin("promise 15");
        SliceDrift x = guessed();
        // (1/2 - 1/3) / (3/4 - 1/3) = (1/6) / (5/12)
        fraction("2/5", 2, 5, p -> x.shift(2, 4, 0, 10, 20, p));
        x.put(11, 4, 0);
        // (0 - 1/3) / (5/12)
        fraction("below 0", -4, 5, p -> x.shift(2, 4, 0, 10, 20, p));
        for (int row = 0; row < 3; row++) {
            x.put(row, 4, 0);
        }
        // (0 - 1/3) / (0 - 1/3)
        fraction("both below 0", 1, 1, p -> x.shift(2, 4, 0, 10, 20, p));
        x.put(11, 4, 1);
        // (1/2 - 1/3) / (0 - 1/3)
        fraction("below 0 by t", -1, 2, p -> x.shift(2, 4, 0, 10, 20, p));
        x.put(4, 4, 0);
        due("t and f both 0", STATE, () -> x.shift(2, 4, 0, 10, 20, 0));
        due("the exception ahead of STATE", THROWS, () -> x.shift(2, 4, 0, 10, 10, 0));
        due("no t, f", THROWS, () -> x.shift(2, 4, 0, 0, 20, 1));
        due("column 5", UNKNOWN, () -> x.shift(5, 4, 0, 10, 20, 0));
        due("guess -1", UNKNOWN, () -> x.shift(2, -1, 0, 10, 20, 0));
        due("both are one", UNKNOWN, () -> x.shift(4, 4, 9, 8, 7, 6));
        due("turned round", OUTSIDE, () -> x.shift(2, 4, 20, 10, 20, 0));
        due("OUTSIDE ahead of STATE", OUTSIDE, () -> x.shift(2, 4, 0, 10, 20, 2));
        due("OUTSIDE ahead of the exception", OUTSIDE, () -> x.shift(2, 4, 0, 0, 20, -1));

        SliceDrift y = guessed();
        y.put(11, 4, 3);
        y.put(12, 4, 1);
        y.put(10, 2, 1);
        fraction("q 1", 8, 5, p -> y.shift(2, 4, 0, 10, 20, p));
        y.put(12, 4, NONE);
        due("no q", THROWS, () -> y.shift(2, 4, 0, 10, 20, 0));
        y.put(11, 4, 1);
        for (int row = 4; row < 7; row++) {
            y.put(row, 2, 9);
        }
        due("no f", THROWS, () -> y.shift(2, 4, 0, 10, 20, 0));
        SliceDrift z = guessed();
        for (int row = 0; row < 4; row++) {
            z.put(row, 4, NONE);
        }
        due("no t", THROWS, () -> z.shift(2, 4, 0, 10, 20, 1));
    }

    private static void promise16() {
        CHECK.begin("promise 16");
        SliceDrift x = new SliceDrift();
        add(x, 0, true, 0, 0, 0, 0, 0);
        add(x, 0, true, 0, 0, 0, 0, 0);
        add(x, 1, true, 0, 0, 5, 0, NONE);
        add(x, 1, true, 0, 5, 5, 5, 6);
        int[] want = {2, 4, 1, 3, 0};
        for (int i = 0; i < 5; i++) {
            int at = i;
            due("place " + i, want[i], () -> x.order(0, 1, 2, at));
        }
        due("i 5", UNKNOWN, () -> x.order(0, 1, 2, 5));
        due("UNKNOWN ahead of OUTSIDE", UNKNOWN, () -> x.order(3, 2, 1, -1));
        due("OUTSIDE", OUTSIDE, () -> x.order(1, 0, 0, 0));
        due("to 1001", OUTSIDE, () -> x.order(0, 1, 1001, 0));
        due("first without rows", THROWS, () -> x.order(0, 0, 2, 0));
        due("second without rows", THROWS, () -> x.order(0, 2, 2, 4));
        due("UNKNOWN ahead of the exception", UNKNOWN, () -> x.order(0, 0, 2, 5));
    }

    private static void promise17Steps() {
        CHECK.begin("promise 17, steps");
        SliceDrift x = new SliceDrift();
        add(x, 0, true, 1);
        add(x, 999, true, 2);
        int[][] steps = {{1, 1, 100, 100}, {900, 1, 100, 999}, {901, 1, 99, 999}, {999, 1, 1, 999},
            {1, 999, 1, 1}, {1, 998, 2, 999}, {1, 333, 3, 667}, {10, 10, 99, 990}, {10, 9, 100, 901}};
        for (int[] s : steps) {
            String name = s[0] + " by " + s[1];
            // the row at 999 is in the last step, unless a hundred end before it
            due(name, s[0] + s[2] * s[1] >= 1000 ? 1 : 0, () -> x.watch(0, s[0], s[1], 1, 1000));
            due(name + ": how many", s[2], () -> x.count(3));
            due(name + ": last begins", s[3], () -> x.step(s[2] - 1, 3));
            due(name + ": no more", UNKNOWN, () -> x.step(s[2], 3));
        }
        due("column 5", UNKNOWN, () -> x.watch(5, 0, 0, 0, 0));
        due("column -1", UNKNOWN, () -> x.watch(-1, 1, 1, 1, 1));
        int[][] wrong = {{0, 1, 1, 1}, {1000, 1, 1, 1}, {1, 0, 1, 1}, {1, 1000, 1, 1}, {1, 1, 0, 1}, {1, 1, 101, 1},
            {1, 1, 1, 0}, {1, 1, 1, 1001}, {LEAST_INT, 1, 1, 1}, {1, MOST_INT, 1, 1}};
        for (int[] w : wrong) {
            due("wrong", OUTSIDE, () -> x.watch(0, w[0], w[1], w[2], w[3]));
        }
        due("refused: the watch stays", 100, () -> x.count(3));
        due("hold 100, limit 1000", 1, () -> x.watch(0, 999, 999, 100, 1000));

        SliceDrift y = new SliceDrift();
        add(y, 5, true, 1);
        due("base below its rows", STATE, () -> y.watch(0, 5, 1, 1, 1));
        due("OUTSIDE ahead of STATE", OUTSIDE, () -> y.watch(0, 5, 1, 1, 1001));
        due("base with a row", 0, () -> y.watch(0, 6, 1, 1, 1));
        due("STATE: the watch stays", STATE, () -> y.watch(0, 1, 500, 1, 1));
        due("100 steps stay", 100, () -> y.count(3));
    }

    /** Base of two rows, 0 and 1 in column 0; then a step per letter: - no rows, o off by 1/2, c calm. */
    private static SliceDrift played(String letters) {
        SliceDrift x = new SliceDrift();
        add(x, 0, true, 0);
        add(x, 0, true, 1);
        for (int k = 0; k < letters.length(); k++) {
            if (letters.charAt(k) == 'o') {
                add(x, 1 + k, true, 0);
            } else if (letters.charAt(k) == 'c') {
                add(x, 1 + k, true, 1);
                add(x, 1 + k, true, 0);
            }
        }
        return x;
    }

    private static void alarms(String letters, int hold, String want, int begun) {
        SliceDrift x = played(letters);
        String name = letters + " held " + hold;
        int ups = 0;
        for (int k = 0; k < want.length(); k++) {
            ups += want.charAt(k) == '1' ? 1 : 0;
        }
        // the hundred steps go on behind the letters, all without rows
        int behind = want.endsWith("1") ? 100 - want.length() : 0;
        due(name, ups + behind, () -> x.watch(0, 1, 1, hold, 500));
        for (int k = 0; k < want.length(); k++) {
            int at = k;
            due(name + ": up at " + k, want.charAt(k) - '0', () -> x.step(at, 0));
            due(name + ": off at " + k, letters.charAt(k) == 'o' ? 1 : 0, () -> x.step(at, 1));
        }
        due(name + ": begun", begun, () -> x.count(4));
        due(name + ": a limit just above", 0, () -> x.watch(0, 1, 1, hold, 501));
        due(name + ": none begun", 0, () -> x.count(4));
        due(name + ": none off", 0, () -> x.step(letters.indexOf('o'), 1));
    }

    private static void promise17Alarms() {
        CHECK.begin("promise 17, alarms");
        alarms("cococ", 1, "01010", 2);
        alarms("oococ", 2, "11111", 1);
        alarms("occco", 2, "11001", 2);
        alarms("o-c--c-o", 2, "11111001", 2);
        alarms("-o-", 1, "011", 1);
        alarms("occcocco", 3, "11101111", 2);
        alarms("coccocc", 3, "0111111", 1);
        alarms("ccco-co", 2, "0001111", 1);
        alarms("occoccocc", 3, "111111111", 1);
    }

    private static void promise18() {
        CHECK.begin("promise 18");
        SliceDrift x = played("oc-o");
        x.watch(0, 1, 2, 1, 250);
        // steps of two: {0, 1, 0} by 1/6, not off; then {0}, off
        int[][] want = {{0, 0, 3, 1}, {1, 1, 1, 3}, {1, 0, 0, 5}};
        for (int k = 0; k < 3; k++) {
            for (int what = 0; what < 4; what++) {
                int at = k, w = what;
                due("step " + k + ", " + what, want[k][what], () -> x.step(at, w));
            }
        }
        due("what 4", UNKNOWN, () -> x.step(0, 4));
        due("what -1", UNKNOWN, () -> x.step(0, -1));
        due("k -1", UNKNOWN, () -> x.step(-1, 0));
        due("k 99", 1 + 99 * 2, () -> x.step(99, 3));
        due("k 100", UNKNOWN, () -> x.step(100, 0));
        due("far off", UNKNOWN, () -> x.step(MOST_INT, 0));
        due("a refused watch", OUTSIDE, () -> x.watch(0, 0, 1, 1, 1));
        due("changes nothing", 3, () -> x.step(0, 2));
        add(x, 1, true, 9);
        due("rows as they were at the watch", 3, () -> x.step(0, 2));
        due("a new watch", 0, () -> x.watch(0, 999, 1, 1, 1));
        due("is the latest", 999, () -> x.step(0, 3));
        due("of one step", UNKNOWN, () -> x.step(1, 3));
    }

    private static void promise19() {
        CHECK.begin("promise 19");
        SliceDrift x = new SliceDrift();
        add(x, 0, true, 1, 2, 3, 4, 5);
        add(x, 1, false, 1, 2, 3, 4);
        add(x, 2, true, NONE, 2, 3, 4, 5);
        add(x, 3, true);
        due("rows", 4, () -> x.count(0));
        due("hits", 3, () -> x.count(1));
        due("no list", 0, () -> x.count(2));
        due("no steps", 0, () -> x.count(3));
        due("no alarms", 0, () -> x.count(4));
        due("lacking", 3, () -> x.count(5));
        x.put(1, 4, 0);
        due("one less", 2, () -> x.count(5));
        int made = x.slices(1, 1);
        due("list", made, () -> x.count(2));
        due("of this many", 11, () -> x.count(2));
        x.watch(0, 1, 100, 1, 1);
        due("steps", 10, () -> x.count(3));
        due("alarms", 1, () -> x.count(4));
        due("what 6", UNKNOWN, () -> x.count(6));
        due("what -1", UNKNOWN, () -> x.count(-1));
        due("far off", UNKNOWN, () -> x.count(LEAST_INT));
    }
}

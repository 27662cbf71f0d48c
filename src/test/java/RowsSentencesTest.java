/** Section 1 of the document and promises 1 to 4: each sentence that names a boundary has a test of its own. */
public final class RowsSentencesTest extends Sentences {
    public static void main(String[] args) {
        rowsAsTheyCome();
        fortyEightAtMost();
        timeOfARow();
        hitOrNot();
        noneAtFirst();
        columns();
        values();
        sortIsTheValueOrTen();
        promise1NoRows();
        promise1NoList();
        promise1NoWatch();
        promise1EachForItself();
        promise2ItsNumber();
        promise3TheSortThatItHad();
        promise3NoneTakesAway();
        promise3Unknown();
        promise3Outside();
        promise3OnlyThere();
        promise4What();
        promise4Unknown();
        lastOf512Calls();
        CHECK.end();
    }

    private static SliceDrift rows(int many) {
        SliceDrift x = new SliceDrift();
        for (int n = 0; n < many; n++) {
            x.row(n, false);
        }
        return x;
    }

    private static void rowsAsTheyCome() {
        sentence("ROWS 0, 1, .. as they come");
        SliceDrift x = new SliceDrift();
        due("first", 0, () -> x.row(900, false));
        due("earlier, but second", 1, () -> x.row(3, true));
        due("like the first", 2, () -> x.row(900, false));
        due("time of 0", 900, () -> x.of(0, 5));
        due("time of 1", 3, () -> x.of(1, 5));
        due("time of 2", 900, () -> x.of(2, 5));
        due("not yet there", UNKNOWN, () -> x.of(3, 5));
    }

    private static void fortyEightAtMost() {
        sentence("48 at most");
        SliceDrift x = rows(47);
        due("the 48th", 47, () -> x.row(0, false));
        due("the 49th", ROOM, () -> x.row(0, true));
        due("and again", ROOM, () -> x.row(999, false));
        due("rows", 48, () -> x.count(0));
        due("hits", 0, () -> x.count(1));
        due("no 49th", UNKNOWN, () -> x.of(48, 5));
        due("none in a window", 48, () -> x.window(0, 1000));
    }

    private static void timeOfARow() {
        sentence("each has a TIME (0 .. 999)");
        SliceDrift x = new SliceDrift();
        refusedBeside("time", OUTSIDE, 0, 999, time -> x.row(time, true));
        due("none came", 0, () -> x.count(0));
        due("least", 0, () -> x.row(0, false));
        due("greatest", 1, () -> x.row(999, false));
        due("least told", 0, () -> x.of(0, 5));
        due("greatest told", 999, () -> x.of(1, 5));
    }

    private static void hitOrNot() {
        sentence("is a HIT or not");
        SliceDrift x = new SliceDrift();
        // the ends, and both sides of an int's last bit
        int[] hits = {0, 31, 33, 47};
        int next = 0;
        for (int n = 0; n < 48; n++) {
            boolean hit = next < hits.length && hits[next] == n;
            next += hit ? 1 : 0;
            x.row(n, hit);
            int row = n;
            due("row " + n, hit ? 1 : 0, () -> x.of(row, 6));
        }
        due("hits", 4, () -> x.count(1));
        due("row 32 still", 0, () -> x.of(32, 6));
    }

    private static void noneAtFirst() {
        sentence("a VALUE 0 .. 9, or none (at first)");
        SliceDrift x = new SliceDrift();
        x.row(5, true);
        x.put(0, 2, 7);
        x.row(5, true);
        for (int c = 0; c < 5; c++) {
            int column = c;
            due("column " + c, 10, () -> x.of(1, column));
        }
    }

    private static void columns() {
        sentence("in COLUMNS 0 .. 4");
        SliceDrift x = rows(2);
        due("column 0", 10, () -> x.put(1, 0, 3));
        due("column 4", 10, () -> x.put(1, 4, 8));
        due("column 0 told", 3, () -> x.of(1, 0));
        due("column 4 told", 8, () -> x.of(1, 4));
        refusedBeside("put in column", UNKNOWN, 0, 4, column -> x.put(1, column, 3));
        refusedBeside("gap in column", UNKNOWN, 0, 4, column -> x.gap(column, 10, 10, 0));
        refusedBeside("drift of column", UNKNOWN, 0, 4, column -> x.drift(column, 0, 1, 2, 0));
        refusedBeside("rise of column", UNKNOWN, 0, 4, column -> x.rise(column, 0, 1, 2));
        refusedBeside("odds of column", UNKNOWN, 0, 4, column -> x.odds(column, 0, 1, 2, 0));
        refusedBeside("fresh in column", UNKNOWN, 0, 4, column -> x.fresh(column, 0, 1, 2, 0));
        refusedBeside("shift by label", UNKNOWN, 0, 4, column -> x.shift(column, 2, 0, 1, 2, 0));
        refusedBeside("shift by guess", UNKNOWN, 0, 4, column -> x.shift(2, column, 0, 1, 2, 0));
        refusedBeside("watch of column", UNKNOWN, 0, 4, column -> x.watch(column, 1, 1, 1, 1));
    }

    private static void values() {
        sentence("a VALUE 0 .. 9");
        SliceDrift x = rows(1);
        due("least", 10, () -> x.put(0, 3, 0));
        due("least told", 0, () -> x.of(0, 3));
        due("greatest", 0, () -> x.put(0, 3, 9));
        due("greatest told", 9, () -> x.of(0, 3));
    }

    private static void sortIsTheValueOrTen() {
        sentence("its SORT there: the VALUE, or 10 without one");
        SliceDrift x = rows(1);
        for (int v = 0; v < 10; v++) {
            int value = v;
            x.put(0, 0, v);
            due("value " + v, value, () -> x.of(0, 0));
        }
        x.put(0, 0, NONE);
        due("without one", 10, () -> x.of(0, 0));
    }

    private static void promise1NoRows() {
        sentence("promise 1: No ROWS");
        SliceDrift x = new SliceDrift();
        due("rows", 0, () -> x.count(0));
        due("hits", 0, () -> x.count(1));
        due("lacking", 0, () -> x.count(5));
        due("of", UNKNOWN, () -> x.of(0, 5));
        due("put", UNKNOWN, () -> x.put(0, 0, 0));
        due("window", 0, () -> x.window(0, 1000));
        due("slices", 0, () -> x.slices(1, 2));
        due("gap", THROWS, () -> x.gap(0, 10, 10, 0));
        due("drift", THROWS, () -> x.drift(0, 0, 500, 1000, 0));
        due("rise", 0, () -> x.rise(0, 0, 500, 1000));
        fraction("odds", 1, 1, p -> x.odds(0, 0, 500, 1000, p));
        due("fresh", 0, () -> x.fresh(0, 0, 500, 1000, NONE));
        due("no fresh one", NONE, () -> x.fresh(0, 0, 500, 1000, 0));
        due("shift", THROWS, () -> x.shift(0, 1, 0, 500, 1000, 0));
        due("order", THROWS, () -> x.order(0, 500, 1000, 0));
        due("watch", STATE, () -> x.watch(0, 999, 1, 1, 1));
    }

    private static void promise1NoList() {
        sentence("promise 1: no LIST");
        SliceDrift x = new SliceDrift();
        due("how many", 0, () -> x.count(2));
        add(x, 0, true, 1);
        due("none by a row alone", 0, () -> x.count(2));
        due("slice", UNKNOWN, () -> x.slice(0, 0));
        due("member", UNKNOWN, () -> x.member(0, 0));
        due("share", UNKNOWN, () -> x.share(0, 0, 0));
    }

    private static void promise1NoWatch() {
        sentence("promise 1: no WATCH");
        SliceDrift x = new SliceDrift();
        add(x, 0, true, 1);
        due("steps", 0, () -> x.count(3));
        due("alarms", 0, () -> x.count(4));
        each("step 0, what", UNKNOWN, what -> x.step(0, what), 0, 1, 2, 3);
        due("a refused one is none", OUTSIDE, () -> x.watch(0, 0, 1, 1, 1));
        due("still no steps", 0, () -> x.count(3));
        due("still no step", UNKNOWN, () -> x.step(0, 3));
    }

    private static void promise1EachForItself() {
        sentence("promise 1: a new object, whatever another one holds");
        SliceDrift other = rows(48);
        other.slices(1, 2);
        other.watch(0, 10, 10, 1, 1);
        SliceDrift x = new SliceDrift();
        for (int what = 0; what <= 5; what++) {
            int w = what;
            due("count " + what, 0, () -> x.count(w));
        }
        due("first row", 0, () -> x.row(1, true));
        due("the other's rows", 48, () -> other.count(0));
        due("the other's hits", 0, () -> other.count(1));
    }

    private static void promise2ItsNumber() {
        sentence("promise 2: A ROW: its number. OUTSIDE; ROOM.");
        SliceDrift x = rows(2);
        due("refused between", OUTSIDE, () -> x.row(1000, true));
        due("the next number all the same", 2, () -> x.row(0, true));
        SliceDrift full = rows(48);
        refusedBeside("OUTSIDE ahead of ROOM, time", OUTSIDE, 0, 999, time -> full.row(time, true));
        each("ROOM, time", ROOM, time -> full.row(time, true), 0, 999);
    }

    private static void promise3TheSortThatItHad() {
        sentence("promise 3: the SORT that it had");
        SliceDrift x = rows(48);
        due("none before", 10, () -> x.put(47, 4, 9));
        due("9 before", 9, () -> x.put(47, 4, 0));
        due("0 before", 0, () -> x.put(47, 4, 0));
        due("0 again", 0, () -> x.put(47, 4, 5));
        due("5 now", 5, () -> x.of(47, 4));
    }

    private static void promise3NoneTakesAway() {
        sentence("promise 3: NONE: it has none");
        SliceDrift x = rows(1);
        due("of one that has none", 10, () -> x.put(0, 1, NONE));
        due("has none", 10, () -> x.of(0, 1));
        x.put(0, 1, 0);
        due("of one that has 0", 0, () -> x.put(0, 1, NONE));
        due("has none now", 10, () -> x.of(0, 1));
        due("and had none", 10, () -> x.put(0, 1, 4));
    }

    private static void promise3Unknown() {
        sentence("promise 3: UNKNOWN");
        SliceDrift x = rows(3);
        refusedBeside("row", UNKNOWN, 0, 2, row -> x.put(row, 0, 1));
        // a shift of a bit by 64 is one by 0
        each("row", UNKNOWN, row -> x.put(row, 0, 1), 47, 48, 64, -64);
        refusedBeside("column", UNKNOWN, 0, 4, column -> x.put(0, column, 1));
        // beyond its own sorts another column's would begin
        each("column", UNKNOWN, column -> x.put(0, column, 1), 10, 11, -11);
        due("the next row is known once it is there", 3, () -> x.row(0, false));
        due("put", 10, () -> x.put(3, 0, 1));
        SliceDrift full = rows(48);
        due("no row 48 in a full one", UNKNOWN, () -> full.put(48, 0, 1));
    }

    private static void promise3Outside() {
        sentence("promise 3: OUTSIDE");
        SliceDrift x = rows(1);
        x.put(0, 0, 6);
        refusedBeside("value", OUTSIDE, NONE, 9, value -> x.put(0, 0, value));
        each("value", OUTSIDE, value -> x.put(0, 0, value), UNKNOWN, OUTSIDE, 11, 16);
        due("nothing changed", 6, () -> x.of(0, 0));
        due("nor beside it", 10, () -> x.of(0, 1));
        refusedBeside("UNKNOWN row ahead, value", UNKNOWN, NONE, 9, value -> x.put(1, 0, value));
        refusedBeside("UNKNOWN column ahead, value", UNKNOWN, NONE, 9, value -> x.put(0, 5, value));
    }

    private static void promise3OnlyThere() {
        sentence("promise 3: A ROW's VALUE in a COLUMN, and no other's");
        SliceDrift x = rows(3);
        x.put(1, 2, 9);
        for (int row = 0; row < 3; row++) {
            for (int column = 0; column < 5; column++) {
                int r = row, c = column;
                due("row " + r + ", column " + c, r == 1 && c == 2 ? 9 : 10, () -> x.of(r, c));
            }
        }
    }

    private static void promise4What() {
        sentence("promise 4: what = 0 .. 4 its SORT, 5 its TIME, 6 whether it is a HIT");
        SliceDrift x = new SliceDrift();
        add(x, 0, false, 0, 9, NONE, 5, 1);
        add(x, 999, true, 9, NONE, 0, 1, 5);
        int[][] want = {{0, 9, 10, 5, 1, 0, 0}, {9, 10, 0, 1, 5, 999, 1}};
        for (int row = 0; row < 2; row++) {
            for (int what = 0; what <= 6; what++) {
                int r = row, w = what;
                due("row " + r + ", what " + w, want[r][w], () -> x.of(r, w));
            }
        }
    }

    private static void promise4Unknown() {
        sentence("promise 4: UNKNOWN");
        SliceDrift x = rows(2);
        refusedBeside("what", UNKNOWN, 0, 6, what -> x.of(0, what));
        refusedBeside("row, sort", UNKNOWN, 0, 1, row -> x.of(row, 0));
        refusedBeside("row, time", UNKNOWN, 0, 1, row -> x.of(row, 5));
        refusedBeside("row, hit", UNKNOWN, 0, 1, row -> x.of(row, 6));
        each("row", UNKNOWN, row -> x.of(row, 6), 47, 48, 64, -63);
        SliceDrift full = rows(48);
        due("the last of 48", 47, () -> full.of(47, 5));
        due("no row 48", UNKNOWN, () -> full.of(48, 5));
    }

    private static void lastOf512Calls() {
        sentence("An object is used for at most 512 calls");
        SliceDrift x = new SliceDrift();
        for (int n = 0; n < 48; n++) {
            x.row(n, n % 2 == 0);
        }
        for (int n = 0; n < 461; n++) {
            x.put(n % 48, n % 5, n % 10);
        }
        // of the 461 puts 456 is the last to row 24 and column 1
        due("the 510th", 6, () -> x.of(24, 1));
        due("the 511th", 48, () -> x.window(0, 1000));
        due("the 512th", 24, () -> x.count(1));
    }
}

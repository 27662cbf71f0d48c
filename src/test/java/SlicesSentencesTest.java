/** Section 2 of the document and promises 5 to 9: each sentence that names a boundary has a test of its own. */
public final class SlicesSentencesTest extends Sentences {
    public static void main(String[] args) {
        partsInLowestTerms();
        partsOutside();
        conditionIsAColumnAndASort();
        twoOfUnlikeColumns();
        rowsForWhichTheseHold();
        leastRowsOrMore();
        leastRowsOrMoreOfTwo();
        notIfTheFirstAloneHasTheSame();
        notIfTheSecondAloneHasTheSame();
        notIfEitherAloneHasTheSame();
        notByAnotherSliceWithTheSame();
        bound();
        lesserBoundFirst();
        thenMoreRows();
        thenLesserFirstColumn();
        thenLesserFirstSort();
        firstConditionAheadOfHowMany();
        thenLesserSecondColumn();
        thenLesserSecondSort();
        staysUntilCalledAgain();
        promise5HowMany();
        promise5Outside();
        promise5All48();
        promise5MostSlices();
        promise6NoneOfOneCondition();
        promise6AsItWasMade();
        promise6Unknown();
        promise7ByNumbers();
        promise7None();
        promise7ThatItHad();
        promise7Refused();
        promise8Sides();
        promise8AsItWasMade();
        promise8Refused();
        promise9HowMuchGreater();
        promise9OfASortAndItself();
        promise9SortsZeroToTen();
        promise9NoneOfEither();
        promise9Refused();
        CHECK.end();
    }

    /** Columns 0 and 1 have 0 0, 0 1, 1 0, 1 1, each as many times, in turn; the other columns lack; no hits. */
    private static SliceDrift crossed(int times) {
        SliceDrift x = new SliceDrift();
        for (int n = 0; n < 4 * times; n++) {
            add(x, n, false, n % 4 / 2, n % 2);
        }
        return x;
    }

    private static void partsInLowestTerms() {
        sentence("A FRACTION is told by its two PARTS in lowest terms: 0 above (with its sign), 1 below (above 0; of 0: 1)");
        SliceDrift x = new SliceDrift();
        // hits: 2 of 4, 6 of 6, 0 of 5, 4 of 4
        addMany(x, 2, 0, true, 0);
        addMany(x, 2, 0, false, 0);
        addMany(x, 6, 0, true, 1);
        addMany(x, 5, 0, false, 2);
        addMany(x, 4, 0, true, 3);
        fraction("1/2 - 1", -1, 2, p -> x.gap(0, 0, 1, p));
        fraction("1 - 1/2", 1, 2, p -> x.gap(0, 1, 0, p));
        fraction("1 - 1", 0, 1, p -> x.gap(0, 1, 3, p));
        fraction("0 - 1", -1, 1, p -> x.gap(0, 2, 1, p));
        fraction("1 - 0", 1, 1, p -> x.gap(0, 1, 2, p));
    }

    private static void partsOutside() {
        sentence("two PARTS: 0, 1");
        SliceDrift x = crossed(1);
        x.slices(1, 1);
        refusedBeside("share of hits", OUTSIDE, 0, 1, part -> x.share(0, 0, part));
        refusedBeside("bound", OUTSIDE, 0, 1, part -> x.share(0, 1, part));
        refusedBeside("gap", OUTSIDE, 0, 1, part -> x.gap(0, 0, 1, part));
        refusedBeside("drift", OUTSIDE, 0, 1, part -> x.drift(0, 0, 2, 4, part));
        refusedBeside("odds", OUTSIDE, 0, 1, part -> x.odds(0, 0, 2, 4, part));
        refusedBeside("shift", OUTSIDE, 0, 1, part -> x.shift(0, 1, 0, 3, 4, part));
    }

    private static void conditionIsAColumnAndASort() {
        sentence("A CONDITION is a COLUMN and a SORT");
        SliceDrift x = new SliceDrift();
        add(x, 0, false, NONE, 0, 9);
        // the SORT 10 is one too
        due("of one", 5, () -> x.slices(1, 1));
        wholeList(x, new int[] {0, 10}, new int[] {1, 0}, new int[] {2, 9}, new int[] {3, 10}, new int[] {4, 10});
        due("all of two have the same row", 5, () -> x.slices(1, 2));
    }

    private static void twoOfUnlikeColumns() {
        sentence("A SLICE is one CONDITION, or two of unlike COLUMNS (the lesser COLUMN first)");
        SliceDrift x = crossed(1);
        due("all", 11, () -> x.slices(1, 2));
        // bounds 2/8, 2/6, 2/5
        wholeList(x, new int[] {2, 10, NONE, NONE, 4, 0}, new int[] {3, 10, NONE, NONE, 4, 0},
            new int[] {4, 10, NONE, NONE, 4, 0}, new int[] {0, 0, NONE, NONE, 2, 0}, new int[] {0, 1, NONE, NONE, 2, 0},
            new int[] {1, 0, NONE, NONE, 2, 0}, new int[] {1, 1, NONE, NONE, 2, 0}, new int[] {0, 0, 1, 0, 1, 0},
            new int[] {0, 0, 1, 1, 1, 0}, new int[] {0, 1, 1, 0, 1, 0}, new int[] {0, 1, 1, 1, 1, 0});

        // the first and the last column, and sort 10 in either
        SliceDrift y = new SliceDrift();
        add(y, 0, false, NONE, 1, 1, 1, NONE);
        add(y, 0, false, NONE, 1, 1, 1, 9);
        add(y, 0, false, 9, 1, 1, 1, NONE);
        // without 0 is 9 and 4 is 9, that have one row each, only both lacking is new
        due("of the outer columns", 8, () -> y.slices(1, 2));
        listed(y, 5, 0, 9, NONE, NONE, 1, 0);
        listed(y, 6, 0, 10, 4, 10, 1, 0);
        listed(y, 7, 4, 9, NONE, NONE, 1, 0);
    }

    private static void rowsForWhichTheseHold() {
        sentence("and has the ROWS for which these hold");
        SliceDrift x = crossed(2);
        x.slices(1, 2);
        members(x, 0, 0, 1, 2, 3, 4, 5, 6, 7);
        members(x, 3, 0, 1, 4, 5);
        members(x, 4, 2, 3, 6, 7);
        members(x, 5, 0, 2, 4, 6);
        members(x, 6, 1, 3, 5, 7);
        members(x, 7, 0, 4);
        members(x, 8, 1, 5);
        members(x, 9, 2, 6);
        members(x, 10, 3, 7);
    }

    private static void leastRowsOrMore() {
        sentence("JUDGED are those with LEAST ROWS or more");
        SliceDrift x = crossed(2);
        // four of 4 rows, three of 8
        due("1", 7, () -> x.slices(1, 1));
        due("4", 7, () -> x.slices(4, 1));
        due("5", 3, () -> x.slices(5, 1));
        due("8", 3, () -> x.slices(8, 1));
        due("9", 0, () -> x.slices(9, 1));
    }

    private static void leastRowsOrMoreOfTwo() {
        sentence("JUDGED are those with LEAST ROWS or more, of two CONDITIONS too");
        SliceDrift x = crossed(2);
        // four more of 2 rows
        due("1", 11, () -> x.slices(1, 2));
        due("2", 11, () -> x.slices(2, 2));
        due("3", 7, () -> x.slices(3, 2));
        due("5", 3, () -> x.slices(5, 2));
        due("9", 0, () -> x.slices(9, 2));
    }

    private static void notIfTheFirstAloneHasTheSame() {
        sentence("but one of two CONDITIONS not, if one of these alone has the same ROWS: the first");
        SliceDrift x = new SliceDrift();
        add(x, 0, false, 0, 5);
        add(x, 0, false, 1, 5);
        due("of one", 6, () -> x.slices(1, 1));
        due("of both", 6, () -> x.slices(1, 2));
    }

    private static void notIfTheSecondAloneHasTheSame() {
        sentence("but one of two CONDITIONS not, if one of these alone has the same ROWS: the second");
        SliceDrift x = new SliceDrift();
        // the columns without values would hold the first alone's rows too, so all have values
        add(x, 0, false, 5, 0, 0, 0, 0);
        add(x, 0, false, 5, 1, 1, 1, 1);
        due("of one", 9, () -> x.slices(1, 1));
        due("of both", 9, () -> x.slices(1, 2));
    }

    private static void notIfEitherAloneHasTheSame() {
        sentence("but one of two CONDITIONS not, if one of these alone has the same ROWS: both");
        SliceDrift x = new SliceDrift();
        add(x, 0, false, 0, 0, 0, 0, 0);
        add(x, 0, true, 1, 1, 1, 1, 1);
        due("of one", 10, () -> x.slices(1, 1));
        due("of both", 10, () -> x.slices(1, 2));
    }

    private static void notByAnotherSliceWithTheSame() {
        sentence("one of these alone: another SLICE with the same ROWS does not keep it from being JUDGED");
        SliceDrift x = new SliceDrift();
        // row 0 is that of 2 = 0 alone, and also that of 0 = 0 and 1 = 0, none of which has it alone
        add(x, 0, false, 0, 0, 0);
        add(x, 0, false, 0, 1, 1);
        add(x, 0, false, 1, 0, 1);
        due("all", 11, () -> x.slices(1, 2));
        // of 1 row each: 0 0 & 1 0, 0 0 & 2 1, 0 1, 1 0 & 2 1, 1 1, 2 0
        int[][] ones = {{0, 0, 1, 0}, {0, 0, 2, 1}, {0, 1, NONE, NONE}, {1, 0, 2, 1}, {1, 1, NONE, NONE},
            {2, 0, NONE, NONE}};
        for (int i = 0; i < ones.length; i++) {
            listed(x, 5 + i, ones[i]);
        }
        members(x, 5, 0);
        members(x, 10, 0);
    }

    private static void bound() {
        sentence("BOUND: HITS and 2, by ROWS and 4");
        SliceDrift x = new SliceDrift();
        add(x, 0, false, 0);
        add(x, 0, true, 1);
        addMany(x, 2, 0, true, 2);
        addMany(x, 3, 0, false, 3);
        x.slices(1, 1);
        // 3 = 2/7, 0 = 2/5, the lacking 5/11, 1 = 3/5, 2 = 4/6
        listed(x, 0, 0, 3);
        fraction("0 of 3", 2, 7, p -> x.share(0, 1, p));
        listed(x, 1, 0, 0);
        fraction("0 of 1", 2, 5, p -> x.share(1, 1, p));
        fraction("3 of 7", 5, 11, p -> x.share(2, 1, p));
        listed(x, 6, 0, 1);
        fraction("1 of 1", 3, 5, p -> x.share(6, 1, p));
        listed(x, 7, 0, 2);
        fraction("2 of 2", 2, 3, p -> x.share(7, 1, p));

        SliceDrift all = new SliceDrift();
        addMany(all, 48, 0, true);
        all.slices(48, 1);
        fraction("48 of 48", 25, 26, p -> all.share(0, 1, p));
        SliceDrift none = new SliceDrift();
        addMany(none, 48, 0, false);
        none.slices(48, 1);
        fraction("0 of 48", 1, 26, p -> none.share(0, 1, p));
    }

    private static void lesserBoundFirst() {
        sentence("that of the lesser BOUND first");
        SliceDrift x = new SliceDrift();
        // no hit of 1 has the lesser share, 1 hit of 10 the lesser bound: 2/5 and 3/14, the lacking 3/15
        add(x, 0, false, 0);
        add(x, 0, true, 1);
        addMany(x, 9, 0, false, 1);
        x.slices(1, 1);
        wholeList(x, new int[] {1, 10}, new int[] {2, 10}, new int[] {3, 10}, new int[] {4, 10}, new int[] {0, 1},
            new int[] {0, 0});

        // 0 = 0 has 4 of 20, 6/24; 1 = 0 has 1 of 9, 3/13: bounds that differ by 1/52 alone, the fewer rows first
        SliceDrift y = new SliceDrift();
        addMany(y, 4, 0, true, 0, 1, 0, 0, 0);
        addMany(y, 16, 0, false, 0, 1, 0, 0, 0);
        addMany(y, 1, 0, true, 1, 0, 0, 0, 0);
        addMany(y, 8, 0, false, 1, 0, 0, 0, 0);
        y.slices(1, 1);
        // like ones of 29 rows 7/33 ahead; then 3/13 (0 1, 1 0), then 1/4 (0 0, 1 1)
        wholeList(y, new int[] {2, 0}, new int[] {3, 0}, new int[] {4, 0}, new int[] {0, 1}, new int[] {1, 0},
            new int[] {0, 0}, new int[] {1, 1});
    }

    private static void thenMoreRows() {
        sentence("of like ones that of more ROWS");
        SliceDrift x = new SliceDrift();
        // half are hits: every bound is 1/2
        add(x, 0, true, 0);
        add(x, 0, false, 0);
        addMany(x, 2, 0, true, 1);
        addMany(x, 2, 0, false, 1);
        x.slices(1, 1);
        wholeList(x, new int[] {1, 10, NONE, NONE, 6}, new int[] {2, 10, NONE, NONE, 6},
            new int[] {3, 10, NONE, NONE, 6}, new int[] {4, 10, NONE, NONE, 6}, new int[] {0, 1, NONE, NONE, 4},
            new int[] {0, 0, NONE, NONE, 2});

        // 1 of 4 is 3/8, and 4 of 12 is 6/16: like in lowest terms, though not as written
        SliceDrift y = new SliceDrift();
        addMany(y, 1, 0, true, 0);
        addMany(y, 3, 0, false, 0);
        addMany(y, 4, 0, true, 1);
        addMany(y, 8, 0, false, 1);
        y.slices(1, 1);
        listed(y, 4, 0, 1, NONE, NONE, 12, 4);
        listed(y, 5, 0, 0, NONE, NONE, 4, 1);
    }

    private static void thenLesserFirstColumn() {
        sentence("then of the lesser first COLUMN");
        SliceDrift x = new SliceDrift();
        // the sorts fall while the columns rise
        addMany(x, 2, 0, false, NONE, 9, 5, 1, 0);
        x.slices(1, 1);
        wholeList(x, new int[] {0, 10}, new int[] {1, 9}, new int[] {2, 5}, new int[] {3, 1}, new int[] {4, 0});
    }

    private static void thenLesserFirstSort() {
        sentence("then of the lesser first SORT");
        SliceDrift x = new SliceDrift();
        // the later rows have the lesser sorts, and 10 is the greatest
        add(x, 0, false, NONE);
        add(x, 0, false, 9);
        add(x, 0, false, 3);
        add(x, 0, false, 0);
        x.slices(1, 1);
        int[][] want = {{0, 0}, {0, 3}, {0, 9}, {0, 10}};
        for (int i = 0; i < want.length; i++) {
            listed(x, 4 + i, want[i]);
        }
    }

    /** That of one condition and one of two can't be like in rows and first condition: they would be the same rows. */
    private static void firstConditionAheadOfHowMany() {
        sentence("first COLUMN, first SORT, then that of one CONDITION");
        SliceDrift x = crossed(1);
        x.put(3, 0, 2);
        // rows 0 0, 0 1, 1 0, 2 1: of 1 row 0 0 & 1 0, 0 0 & 1 1, then the one conditions 0 1 and 0 2
        due("all", 3 + 3 + 4, () -> x.slices(1, 2));
        int[][] want = {{0, 0, NONE, NONE, 2}, {1, 0, NONE, NONE, 2}, {1, 1, NONE, NONE, 2}, {0, 0, 1, 0, 1},
            {0, 0, 1, 1, 1}, {0, 1, NONE, NONE, 1}, {0, 2, NONE, NONE, 1}};
        for (int i = 0; i < want.length; i++) {
            listed(x, 3 + i, want[i]);
        }
    }

    private static void thenLesserSecondColumn() {
        sentence("then of the lesser second COLUMN");
        SliceDrift x = new SliceDrift();
        // 0 0 with a row of each of 1 9, 2 5, 3 0; the fourth row keeps these from being alone
        add(x, 0, false, 0, 9, 1, 1, 0);
        add(x, 0, false, 0, 8, 5, 2, 0);
        add(x, 0, false, 0, 7, 3, 0, 0);
        add(x, 0, false, 1, 9, 5, 0, 0);
        x.slices(1, 2);
        int[][] pairs = new int[12][];
        int found = 0;
        for (int i = 0; i < x.count(2); i++) {
            if (x.slice(i, 2) != NONE && x.slice(i, 0) == 0) {
                pairs[found++] = new int[] {x.slice(i, 1), x.slice(i, 2), x.slice(i, 3)};
            }
        }
        int many = found;
        due("pairs with column 0", 3, () -> many);
        int[][] want = {{0, 1, 9}, {0, 2, 5}, {0, 3, 0}};
        for (int i = 0; i < 3; i++) {
            for (int k = 0; k < 3; k++) {
                int at = i, place = k;
                due("pair " + i + ", " + k, want[i][k], () -> pairs[at][place]);
            }
        }
    }

    private static void thenLesserSecondSort() {
        sentence("then of the lesser second SORT");
        SliceDrift x = new SliceDrift();
        // 0 0 with a row of each of 1 none, 1 6, 1 0, as the rows rise
        add(x, 0, false, 0, NONE, 0, 0, 0);
        add(x, 0, false, 0, 6, 0, 0, 0);
        add(x, 0, false, 0, 0, 0, 0, 0);
        add(x, 0, false, 1, NONE, 0, 0, 0);
        add(x, 0, false, 1, 6, 0, 0, 0);
        add(x, 0, false, 1, 0, 0, 0, 0);
        due("all", 3 + 2 + 3 + 6, () -> x.slices(1, 2));
        int[][] want = {{0, 0, 1, 0, 1}, {0, 0, 1, 6, 1}, {0, 0, 1, 10, 1}, {0, 1, 1, 0, 1}, {0, 1, 1, 6, 1},
            {0, 1, 1, 10, 1}};
        for (int i = 0; i < want.length; i++) {
            listed(x, 8 + i, want[i]);
        }
    }

    private static void staysUntilCalledAgain() {
        sentence("It is made by slices(), and stays until that is called again");
        SliceDrift x = crossed(1);
        x.slices(2, 1);
        x.put(0, 0, 9);
        x.row(5, true);
        x.watch(0, 4, 100, 1, 1);
        due("a refused one", OUTSIDE, () -> x.slices(0, 1));
        due("how many", 7, () -> x.count(2));
        listed(x, 3, 0, 0, NONE, NONE, 2, 0);
        members(x, 3, 0, 1);
        due("called again", 3, () -> x.slices(3, 1));
        listed(x, 0, 2, 10, NONE, NONE, 5, 1);
        due("called again, and none", 0, () -> x.slices(6, 1));
        due("none", 0, () -> x.count(2));
        due("no first", UNKNOWN, () -> x.slice(0, 0));
        due("no member", UNKNOWN, () -> x.member(0, 0));
        due("no share", UNKNOWN, () -> x.share(0, 0, 0));
    }

    private static void promise5HowMany() {
        sentence("promise 5: THE LIST is made, of SLICES of one CONDITION (deep = 1), or of both (2): how many");
        SliceDrift x = crossed(1);
        due("of one", 7, () -> x.slices(1, 1));
        due("of one, counted", 7, () -> x.count(2));
        due("none of two behind", UNKNOWN, () -> x.slice(7, 0));
        due("of both", 11, () -> x.slices(1, 2));
        due("of both, counted", 11, () -> x.count(2));
        due("of one again", 7, () -> x.slices(1, 1));
        due("of one again, counted", 7, () -> x.count(2));
    }

    private static void promise5Outside() {
        sentence("promise 5: OUTSIDE: LEAST (1 .. 48), deep");
        SliceDrift x = crossed(1);
        x.slices(2, 1);
        refusedBeside("least", OUTSIDE, 1, 48, least -> x.slices(least, 1));
        refusedBeside("deep", OUTSIDE, 1, 2, deep -> x.slices(1, deep));
        due("nothing changed", 7, () -> x.count(2));
        due("least 1", 7, () -> x.slices(1, 1));
        due("least 48", 0, () -> x.slices(48, 2));
    }

    private static void promise5All48() {
        sentence("promise 5: LEAST 48");
        SliceDrift x = new SliceDrift();
        addMany(x, 47, 0, true);
        due("47 rows are too few", 0, () -> x.slices(48, 1));
        due("but 47", 5, () -> x.slices(47, 2));
        x.row(0, true);
        due("48 rows", 5, () -> x.slices(48, 1));
        due("of two have the same", 5, () -> x.slices(48, 2));
        listed(x, 4, 4, 10, NONE, NONE, 48, 48);
    }

    private static void promise5MostSlices() {
        sentence("promise 5: as many SLICES as 48 ROWS can have");
        SliceDrift x = new SliceDrift();
        for (int n = 0; n < 48; n++) {
            int a = n % 11, b = a + n / 11;
            add(x, n, n == 47, tenIsNone(a), tenIsNone(b), tenIsNone(a + b), tenIsNone(a + 2 * b), tenIsNone(a + 3 * b));
        }
        due("of one", 55, () -> x.slices(1, 1));
        due("of both", 535, () -> x.slices(1, 2));
        // the ten pairs of the only hit come last by 3/5; its sorts are 3, 7, 10, 6, 2
        due("first of these", 47, () -> x.member(525, 0));
        due("last of these", 47, () -> x.member(534, 0));
        listed(x, 525, 0, 3, 1, 7, 1, 1);
        listed(x, 534, 3, 6, 4, 2, 1, 1);
        due("one ahead of these", 0, () -> x.slice(524, 5));
        due("none behind", UNKNOWN, () -> x.slice(535, 0));
    }

    private static int tenIsNone(int number) {
        return number % 11 == 10 ? NONE : number % 11;
    }

    private static void promise6NoneOfOneCondition() {
        sentence("promise 6: 2 its second COLUMN, 3 SORT (NONE)");
        SliceDrift x = crossed(1);
        x.slices(1, 2);
        listed(x, 6, 1, 1, NONE, NONE);
        listed(x, 7, 0, 0, 1, 0);
        listed(x, 10, 0, 1, 1, 1);
    }

    private static void promise6AsItWasMade() {
        sentence("promise 6: 4 ROWS, 5 HITS, as it was made");
        SliceDrift x = new SliceDrift();
        add(x, 0, true, 3);
        add(x, 0, false, 3);
        x.slices(1, 1);
        listed(x, 0, 0, 3, NONE, NONE, 2, 1);
        x.put(0, 0, 4);
        listed(x, 0, 0, 3, NONE, NONE, 2, 1);
        x.put(1, 0, NONE);
        listed(x, 0, 0, 3, NONE, NONE, 2, 1);
        add(x, 0, true, 3);
        listed(x, 0, 0, 3, NONE, NONE, 2, 1);
        listed(x, 4, 4, 10, NONE, NONE, 2, 1);
        x.slices(1, 1);
        // 1 of 1 for 3, for 4, none of 1 for the lacking one: it leads
        listed(x, 0, 0, 10, NONE, NONE, 1, 0);
    }

    private static void promise6Unknown() {
        sentence("promise 6: UNKNOWN");
        SliceDrift x = crossed(1);
        x.slices(1, 2);
        for (int what = 0; what <= 5; what++) {
            int w = what;
            refusedBeside("what " + what + ", i", UNKNOWN, 0, 10, i -> x.slice(i, w));
        }
        refusedBeside("what", UNKNOWN, 0, 5, what -> x.slice(0, what));
        refusedBeside("what of the last", UNKNOWN, 0, 5, what -> x.slice(10, what));
        x.slices(1, 1);
        each("i of a shorter list", UNKNOWN, i -> x.slice(i, 0), 7, 10);
    }

    private static void promise7ByNumbers() {
        sentence("promise 7: The k-th ROW (by numbers)");
        SliceDrift x = new SliceDrift();
        // rows 0, 31, 32 and 47 have a 5, put in another order, and times that fall
        for (int n = 0; n < 48; n++) {
            x.row(999 - n, true);
        }
        for (int row : new int[] {32, 47, 0, 31}) {
            x.put(row, 2, 5);
        }
        x.slices(4, 1);
        listed(x, 0, 2, 5, NONE, NONE, 4, 4);
        members(x, 0, 0, 31, 32, 47);
    }

    private static void promise7None() {
        sentence("promise 7: NONE");
        SliceDrift x = crossed(1);
        x.slices(1, 2);
        each("of four rows, k", NONE, k -> x.member(0, k), 4, 5, 47, 48, 64, MOST_INT);
        each("of one row, k", NONE, k -> x.member(10, k), 1, 2, MOST_INT);
        SliceDrift full = new SliceDrift();
        addMany(full, 48, 0, true);
        full.slices(1, 1);
        due("the 48th", 47, () -> full.member(4, 47));
        each("of 48 rows, k", NONE, k -> full.member(4, k), 48, 49, MOST_INT);
    }

    private static void promise7ThatItHad() {
        sentence("promise 7: that it had");
        SliceDrift x = crossed(1);
        x.slices(1, 2);
        for (int row = 0; row < 4; row++) {
            x.put(row, 0, NONE);
            x.put(row, 1, 8);
            x.put(row, 2, row);
        }
        add(x, 0, true, 0, 0);
        members(x, 0, 0, 1, 2, 3);
        members(x, 3, 0, 1);
        members(x, 8, 1);
    }

    private static void promise7Refused() {
        sentence("promise 7: UNKNOWN; OUTSIDE: k is below 0");
        SliceDrift x = crossed(1);
        x.slices(1, 2);
        each("k", OUTSIDE, k -> x.member(0, k), -1, -2, LEAST_INT);
        due("k 0", 0, () -> x.member(0, 0));
        refusedBeside("i", UNKNOWN, 0, 10, i -> x.member(i, 0));
        refusedBeside("UNKNOWN ahead of OUTSIDE, i", UNKNOWN, 0, 10, i -> x.member(i, -1));
        refusedBeside("UNKNOWN ahead of NONE, i", UNKNOWN, 0, 10, i -> x.member(i, 48));
    }

    private static void promise8Sides() {
        sentence("promise 8: Its share of HITS (side = 0), its BOUND (1), a PART");
        SliceDrift x = new SliceDrift();
        addMany(x, 2, 0, false, 0);
        addMany(x, 3, 0, true, 1);
        addMany(x, 2, 0, true, 2);
        addMany(x, 4, 0, false, 2);
        x.slices(1, 1);
        // all 5/11: 7/15 behind 2 = 4/10 and 0 = 2/6; 1 = 5/7
        listed(x, 0, 0, 0);
        fraction("0 of 2", 0, 1, p -> x.share(0, 0, p));
        fraction("its bound", 1, 3, p -> x.share(0, 1, p));
        listed(x, 1, 0, 2);
        fraction("2 of 6", 1, 3, p -> x.share(1, 0, p));
        fraction("its bound", 2, 5, p -> x.share(1, 1, p));
        fraction("5 of 11", 5, 11, p -> x.share(2, 0, p));
        fraction("its bound", 7, 15, p -> x.share(2, 1, p));
        listed(x, 6, 0, 1);
        fraction("3 of 3", 1, 1, p -> x.share(6, 0, p));
        fraction("its bound", 5, 7, p -> x.share(6, 1, p));
    }

    private static void promise8AsItWasMade() {
        sentence("promise 8: Its share: of the SLICE as it was made");
        SliceDrift x = new SliceDrift();
        add(x, 0, true, 3);
        add(x, 0, false, 3);
        add(x, 0, false, 3);
        x.slices(1, 1);
        x.put(0, 0, 4);
        addMany(x, 4, 0, true, 3);
        fraction("1 of 3", 1, 3, p -> x.share(0, 0, p));
        fraction("its bound", 3, 7, p -> x.share(0, 1, p));
    }

    private static void promise8Refused() {
        sentence("promise 8: UNKNOWN; OUTSIDE: side, PART");
        SliceDrift x = crossed(1);
        x.slices(1, 2);
        refusedBeside("side", OUTSIDE, 0, 1, side -> x.share(0, side, 0));
        refusedBeside("part", OUTSIDE, 0, 1, part -> x.share(0, 0, part));
        refusedBeside("i", UNKNOWN, 0, 10, i -> x.share(i, 0, 0));
        refusedBeside("UNKNOWN ahead of OUTSIDE side, i", UNKNOWN, 0, 10, i -> x.share(i, 2, 0));
        refusedBeside("UNKNOWN ahead of OUTSIDE part, i", UNKNOWN, 0, 10, i -> x.share(i, 1, -1));
    }

    private static void promise9HowMuchGreater() {
        sentence("promise 9: How much greater the share of HITS is among ROWS of a SORT than among those of another one");
        SliceDrift x = new SliceDrift();
        // 2 of 3 and 1 of 4; 47 rows and 1 in column 4
        addMany(x, 2, 0, true, 5);
        addMany(x, 1, 0, false, 5);
        addMany(x, 1, 0, true, 6);
        addMany(x, 3, 0, false, 6);
        fraction("greater", 5, 12, p -> x.gap(0, 5, 6, p));
        fraction("less", -5, 12, p -> x.gap(0, 6, 5, p));

        SliceDrift y = new SliceDrift();
        addMany(y, 1, 0, true, NONE, NONE, NONE, NONE, 0);
        addMany(y, 46, 0, false, NONE, NONE, NONE, NONE, 0);
        addMany(y, 1, 0, true);
        fraction("1/47 - 1", -46, 47, p -> y.gap(4, 0, 10, p));
        fraction("1 - 1/47", 46, 47, p -> y.gap(4, 10, 0, p));
    }

    /** Promise 9 refuses no two like sorts, as promise 15 does like columns: the gap is a plain 0. */
    private static void promise9OfASortAndItself() {
        sentence("promise 9: of a SORT and the same one");
        SliceDrift x = new SliceDrift();
        addMany(x, 2, 0, true, 5);
        addMany(x, 1, 0, false, 5);
        addMany(x, 1, 0, true);
        fraction("2/3 - 2/3", 0, 1, p -> x.gap(0, 5, 5, p));
        fraction("of those lacking", 0, 1, p -> x.gap(0, 10, 10, p));
        due("there are none", THROWS, () -> x.gap(0, 6, 6, 0));
        due("OUTSIDE", OUTSIDE, () -> x.gap(0, 11, 11, 0));
    }

    private static void promise9SortsZeroToTen() {
        sentence("promise 9: a SORT (0 .. 10)");
        SliceDrift x = new SliceDrift();
        add(x, 0, true, 0);
        add(x, 0, false, 9);
        add(x, 0, false);
        fraction("0 and 9", 1, 1, p -> x.gap(0, 0, 9, p));
        fraction("0 and 10", 1, 1, p -> x.gap(0, 0, 10, p));
        fraction("10 and 0", -1, 1, p -> x.gap(0, 10, 0, p));
        refusedBeside("sort", OUTSIDE, 0, 10, sort -> x.gap(0, sort, 0, 0));
        refusedBeside("other", OUTSIDE, 0, 10, other -> x.gap(0, 0, other, 0));
        // in the last column a sort beyond its own would be beyond all
        refusedBeside("sort in column 4", OUTSIDE, 0, 10, sort -> x.gap(4, sort, 10, 0));
        refusedBeside("other in column 4", OUTSIDE, 0, 10, other -> x.gap(4, 10, other, 0));
    }

    private static void promise9NoneOfEither() {
        sentence("promise 9: ArithmeticException: of either there are none");
        SliceDrift x = new SliceDrift();
        add(x, 0, true, 0);
        fraction("of the first", THROWS, THROWS, p -> x.gap(0, 1, 0, p));
        fraction("of the other", THROWS, THROWS, p -> x.gap(0, 0, 1, p));
        due("of both", THROWS, () -> x.gap(0, 1, 2, 0));
        due("of those lacking", THROWS, () -> x.gap(0, 0, 10, 0));
        due("of 0 where all lack", THROWS, () -> x.gap(1, 10, 0, 0));
        x.put(0, 0, NONE);
        due("taken away", THROWS, () -> x.gap(0, 0, 10, 0));
        fraction("and lacking now", 0, 1, p -> x.gap(0, 10, 10, p));
    }

    private static void promise9Refused() {
        sentence("promise 9: UNKNOWN; OUTSIDE; ArithmeticException");
        SliceDrift x = crossed(1);
        refusedBeside("column", UNKNOWN, 0, 4, column -> x.gap(column, 0, 1, 0));
        refusedBeside("part", OUTSIDE, 0, 1, part -> x.gap(0, 0, 1, part));
        due("UNKNOWN ahead of OUTSIDE sort", UNKNOWN, () -> x.gap(5, 11, 0, 0));
        due("UNKNOWN ahead of OUTSIDE other", UNKNOWN, () -> x.gap(5, 0, -1, 0));
        due("UNKNOWN ahead of OUTSIDE part", UNKNOWN, () -> x.gap(-1, 0, 0, 2));
        due("UNKNOWN ahead of the exception", UNKNOWN, () -> x.gap(5, 2, 3, 0));
        due("OUTSIDE sort ahead of the exception", OUTSIDE, () -> x.gap(0, 11, 2, 0));
        due("OUTSIDE other ahead of the exception", OUTSIDE, () -> x.gap(0, 2, 11, 0));
        due("OUTSIDE part ahead of the exception", OUTSIDE, () -> x.gap(0, 2, 2, 2));
    }
}

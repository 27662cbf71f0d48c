/** Section 4 of the document and promises 17 to 19: each sentence that names a boundary has a test of its own. */
public final class AlarmsSentencesTest extends Sentences {
    public static void main(String[] args) {
        baseFromZero();
        stepsFromBaseOn();
        asLongAsOneBeginsBelow1000();
        theLastOneEndsThere();
        hundredAtMost();
        hundredthEndsAsTheOthers();
        offAtTheLimit();
        offByTheLeastDrift();
        offAsTheSecondWindow();
        withoutRowsNotOff();
        upFromOffOn();
        endsBehindHold();
        endsBehindHoldInARow();
        withoutRowsNothingChanges();
        upAtTheEnds();
        holdOfHundred();
        promise17HowManyUp();
        promise17Outside();
        promise17State();
        promise17Refused();
        promise18What();
        promise18Latest();
        promise18NotRefused();
        promise18AsItWasCalled();
        promise18Unknown();
        promise19Rows();
        promise19Lacking();
        promise19List();
        promise19Steps();
        promise19Alarms();
        promise19AsItWasCalled();
        promise19Unknown();
        CHECK.end();
    }

    private static void steps(SliceDrift x, int what, int... want) {
        for (int k = 0; k < want.length; k++) {
            int at = k;
            due("step " + k + ", " + what, want[k], () -> x.step(at, what));
        }
    }

    private static void baseFromZero() {
        sentence("the BASE is the WINDOW from 0 to base");
        SliceDrift x = new SliceDrift();
        add(x, 0, false, 1);
        add(x, 4, false, 2);
        add(x, 5, false, 2);
        // base to 4: 1 alone; base to 5: 1 and 2; base to 6: all, and none behind
        due("4", 100, () -> x.watch(0, 4, 1, 1, 1000));
        steps(x, 2, 1, 1, 0);
        due("5, by the half", 100, () -> x.watch(0, 5, 1, 1, 500));
        due("5, by more", 0, () -> x.watch(0, 5, 1, 1, 501));
        steps(x, 2, 1, 0);
        due("6", 0, () -> x.watch(0, 6, 1, 1, 1));
        steps(x, 2, 0, 0);
        SliceDrift y = new SliceDrift();
        add(y, 0, false, 1);
        due("a row at 0 is in the least", 0, () -> y.watch(0, 1, 1, 1, 1));
    }

    private static void stepsFromBaseOn() {
        sentence("STEPS 0, 1, ..: WINDOWS from base on, each step long");
        SliceDrift x = new SliceDrift();
        for (int time = 0; time < 20; time++) {
            x.row(time, false);
        }
        x.watch(0, 7, 3, 1, 1);
        steps(x, 3, 7, 10, 13, 16, 19, 22);
        steps(x, 2, 3, 3, 3, 3, 1, 0);
    }

    /** A row at 0; base and step; how many steps, and when the last begins. */
    private static void many(int base, int step, int want, int last) {
        SliceDrift x = new SliceDrift();
        x.row(0, false);
        String name = base + " by " + step;
        due(name, 0, () -> x.watch(0, base, step, 1, 1));
        due(name + ": how many", want, () -> x.count(3));
        due(name + ": last", last, () -> x.step(want - 1, 3));
        due(name + ": none behind", UNKNOWN, () -> x.step(want, 3));
    }

    private static void asLongAsOneBeginsBelow1000() {
        sentence("as long as one begins below 1000");
        many(999, 1, 1, 999);
        many(999, 999, 1, 999);
        many(998, 1, 2, 999);
        many(998, 2, 1, 998);
        many(1, 999, 1, 1);
        many(1, 998, 2, 999);
        many(2, 998, 1, 2);
        many(500, 250, 2, 750);
        many(499, 250, 3, 999);
        many(1, 10, 100, 991);
        many(10, 10, 99, 990);
    }

    private static void theLastOneEndsThere() {
        sentence("(the last one ends there)");
        SliceDrift x = new SliceDrift();
        add(x, 0, false, 1);
        add(x, 999, false, 2);
        due("999 by 999", 1, () -> x.watch(0, 999, 999, 1, 1000));
        steps(x, 2, 1);
        due("1 by 998", 1, () -> x.watch(0, 1, 998, 1, 1000));
        steps(x, 2, 0, 1);
        due("1 by 999", 1, () -> x.watch(0, 1, 999, 1, 1000));
        steps(x, 2, 1);
        due("500 by 300", 1, () -> x.watch(0, 500, 300, 1, 1000));
        steps(x, 2, 0, 1);
        steps(x, 0, 0, 1);
    }

    private static void hundredAtMost() {
        sentence("100 at most");
        many(1, 1, 100, 100);
        many(901, 1, 99, 999);
        many(900, 1, 100, 999);
        many(899, 1, 100, 998);
        many(9, 10, 100, 999);
        many(10, 9, 100, 901);
        SliceDrift x = new SliceDrift();
        add(x, 0, false, 1);
        add(x, 999, false, 2);
        due("the hundredth has it", 1, () -> x.watch(0, 900, 1, 1, 1));
        steps(x, 0, 0);
        due("up there", 1, () -> x.step(99, 0));
        due("one more would", 0, () -> x.watch(0, 899, 1, 1, 1));
        due("not up there", 0, () -> x.step(99, 0));
    }

    private static void hundredthEndsAsTheOthers() {
        sentence("100 at most, each step long");
        SliceDrift x = new SliceDrift();
        add(x, 0, false, 1);
        add(x, 900, false, 2);
        add(x, 901, false, 2);
        // the last of 1 by 9 goes from 892 to 901
        due("up once", 1, () -> x.watch(0, 1, 9, 1, 1));
        due("its rows", 1, () -> x.step(99, 2));
    }

    /** Base of two rows, 0 and 1 in column 0; then a step per letter: - no rows, o off by 1/2, c calm. */
    private static SliceDrift played(String letters) {
        SliceDrift x = new SliceDrift();
        add(x, 0, false, 0);
        add(x, 0, false, 1);
        for (int k = 0; k < letters.length(); k++) {
            if (letters.charAt(k) == 'o') {
                add(x, 1 + k, false, 0);
            } else if (letters.charAt(k) == 'c') {
                add(x, 1 + k, false, 1);
                add(x, 1 + k, false, 0);
            }
        }
        return x;
    }

    /** What is up in the steps of the letters, and how many alarms began; behind the letters there are no rows. */
    private static void alarms(String letters, int hold, String want, int begun) {
        SliceDrift x = played(letters);
        String name = letters + " held " + hold;
        int ups = want.endsWith("1") ? 100 - want.length() : 0;
        for (int k = 0; k < want.length(); k++) {
            ups += want.charAt(k) - '0';
        }
        due(name, ups, () -> x.watch(0, 1, 1, hold, 500));
        for (int k = 0; k < want.length(); k++) {
            int at = k;
            due(name + ": up at " + k, want.charAt(k) - '0', () -> x.step(at, 0));
            due(name + ": off at " + k, letters.charAt(k) == 'o' ? 1 : 0, () -> x.step(at, 1));
        }
        due(name + ": up at the last", want.charAt(want.length() - 1) - '0', () -> x.step(99, 0));
        due(name + ": begun", begun, () -> x.count(4));
    }

    private static void offAtTheLimit() {
        sentence("A STEP is OFF, if the DRIFT of the BASE and it is LIMIT thousandths or more");
        SliceDrift half = played("o");
        due("1/2 by 500", 100, () -> half.watch(0, 1, 1, 1, 500));
        due("off", 1, () -> half.step(0, 1));
        due("1/2 by 501", 0, () -> half.watch(0, 1, 1, 1, 501));
        due("not off", 0, () -> half.step(0, 1));
        SliceDrift third = new SliceDrift();
        add(third, 0, false, 0);
        add(third, 1, false, 0);
        add(third, 1, false, 0);
        add(third, 1, false, 1);
        due("1/3 by 333", 100, () -> third.watch(0, 1, 1, 1, 333));
        due("1/3 by 334", 0, () -> third.watch(0, 1, 1, 1, 334));
        SliceDrift whole = new SliceDrift();
        add(whole, 0, false, 0);
        add(whole, 1, false, NONE);
        due("1 by 1000", 100, () -> whole.watch(0, 1, 1, 1, 1000));
        due("0 by 1, in another column", 0, () -> whole.watch(1, 1, 1, 1, 1));
        due("not off by 0", 0, () -> whole.step(0, 1));
    }

    private static void offByTheLeastDrift() {
        sentence("OFF by a DRIFT of 1/575, the least of 48 ROWS but 0");
        SliceDrift x = new SliceDrift();
        addMany(x, 12, 0, false, 0);
        addMany(x, 11, 0, false, 1);
        addMany(x, 13, 1, false, 0);
        addMany(x, 12, 1, false, 1);
        due("by 1", 100, () -> x.watch(0, 1, 1, 1, 1));
        due("by 2", 0, () -> x.watch(0, 1, 1, 1, 2));
        SliceDrift y = new SliceDrift();
        // all but 1 of 47 are apart: 978.7 thousandths
        addMany(y, 46, 0, false, 0);
        addMany(y, 1, 0, false, 1);
        addMany(y, 1, 1, false, 1);
        due("by 978", 100, () -> y.watch(0, 1, 1, 1, 978));
        due("by 979", 0, () -> y.watch(0, 1, 1, 1, 979));
    }

    private static void offAsTheSecondWindow() {
        sentence("the BASE and it (as if it were the second WINDOW)");
        SliceDrift x = new SliceDrift();
        // step 2 is like the base, though all between are not
        add(x, 0, false, 5);
        add(x, 1, false, 6);
        add(x, 2, false, 7);
        add(x, 3, false, 5);
        due("up in two", 2, () -> x.watch(0, 1, 1, 1, 1));
        steps(x, 1, 1, 1, 0, 0);
        steps(x, 0, 1, 1, 0, 0);
    }

    private static void withoutRowsNotOff() {
        sentence("STEPS without ROWS change nothing: they are not OFF");
        SliceDrift x = new SliceDrift();
        add(x, 0, false, 5);
        due("none is up", 0, () -> x.watch(0, 1, 1, 1, 1));
        due("none began", 0, () -> x.count(4));
        steps(x, 1, 0, 0, 0);
        due("the last", 0, () -> x.step(99, 1));
    }

    private static void upFromOffOn() {
        sentence("An ALARM is up from a STEP that is OFF on");
        alarms("o", 1, "1", 1);
        alarms("co", 1, "01", 1);
        alarms("-co", 1, "001", 1);
        alarms("oo", 1, "11", 1);
        alarms("coooc", 2, "01111", 1);
        alarms("cc", 1, "00", 0);
    }

    private static void endsBehindHold() {
        sentence("it ends behind HOLD STEPS (it is up at the first HOLD - 1 of them, not at that one)");
        alarms("oc", 1, "10", 1);
        alarms("oc", 2, "11", 1);
        alarms("occ", 2, "110", 1);
        alarms("occ", 3, "111", 1);
        alarms("occc", 3, "1110", 1);
        alarms("occcc", 3, "11100", 1);
        alarms("ococ", 1, "1010", 2);
    }

    private static void endsBehindHoldInARow() {
        sentence("HOLD STEPS, one behind the other");
        alarms("ococ", 2, "1111", 1);
        alarms("ococc", 2, "11110", 1);
        alarms("occocc", 3, "111111", 1);
        alarms("occoccc", 3, "1111110", 1);
        // those ahead of an alarm do not count
        alarms("ccoc", 2, "0011", 1);
        alarms("cccocc", 2, "000110", 1);
        alarms("occcoc", 2, "110011", 2);
    }

    private static void withoutRowsNothingChanges() {
        sentence("that have ROWS; STEPS without ROWS change nothing (an ALARM that is up stays so)");
        alarms("o-", 1, "11", 1);
        alarms("o--c", 1, "1110", 1);
        alarms("oc-c", 2, "1110", 1);
        alarms("oc--", 2, "1111", 1);
        alarms("o-c-c", 2, "11110", 1);
        alarms("o-o", 1, "111", 1);
        alarms("oc-o", 1, "1001", 2);
        alarms("-", 1, "0", 0);
        alarms("c-", 1, "00", 0);
        alarms("oc-", 1, "100", 1);
    }

    private static void upAtTheEnds() {
        sentence("An ALARM at the first STEP, and at the last");
        SliceDrift x = new SliceDrift();
        add(x, 0, false, 1);
        add(x, 1, false, 2);
        add(x, 2, false, 1);
        add(x, 100, false, 2);
        due("two are up", 2, () -> x.watch(0, 1, 1, 1, 1));
        due("first", 1, () -> x.step(0, 0));
        due("between", 0, () -> x.step(1, 0));
        due("ahead of the last", 0, () -> x.step(98, 0));
        due("last", 1, () -> x.step(99, 0));
        due("began", 2, () -> x.count(4));
        due("held by 2: all are up", 100, () -> x.watch(0, 1, 1, 2, 1));
        due("began once", 1, () -> x.count(4));
    }

    private static void holdOfHundred() {
        sentence("HOLD (1 .. 100)");
        SliceDrift x = new SliceDrift();
        add(x, 0, false, 1);
        add(x, 1, false, 2);
        for (int time = 2; time < 47; time++) {
            add(x, time, false, 1);
        }
        // 45 calm steps
        due("45", 45, () -> x.watch(0, 1, 1, 45, 1));
        due("up at the 44th", 1, () -> x.step(44, 0));
        due("not at the 45th", 0, () -> x.step(45, 0));
        due("46", 100, () -> x.watch(0, 1, 1, 46, 1));
        due("100", 100, () -> x.watch(0, 1, 1, 100, 1));
        due("1", 1, () -> x.watch(0, 1, 1, 1, 1));
    }

    private static void promise17HowManyUp() {
        sentence("promise 17: A WATCH: in how many STEPS an ALARM is up");
        SliceDrift x = played("oc-oocc");
        due("held 1", 1 + 2, () -> x.watch(0, 1, 1, 1, 500));
        due("held 2", 6, () -> x.watch(0, 1, 1, 2, 500));
        due("held 3", 100, () -> x.watch(0, 1, 1, 3, 500));
        due("in another column", 0, () -> x.watch(1, 1, 1, 3, 1));
        due("column 4", 0, () -> x.watch(4, 1, 1, 3, 1));
    }

    private static void promise17Outside() {
        sentence("promise 17: OUTSIDE: base (1 .. 999), step (1 .. 999), HOLD (1 .. 100), LIMIT (1 .. 1000)");
        SliceDrift x = new SliceDrift();
        add(x, 0, false, 1);
        refusedBeside("base", OUTSIDE, 1, 999, base -> x.watch(0, base, 1, 1, 1));
        refusedBeside("step", OUTSIDE, 1, 999, step -> x.watch(0, 1, step, 1, 1));
        refusedBeside("hold", OUTSIDE, 1, 100, hold -> x.watch(0, 1, 1, hold, 1));
        refusedBeside("limit", OUTSIDE, 1, 1000, limit -> x.watch(0, 1, 1, 1, limit));
        due("no watch yet", 0, () -> x.count(3));
        each("base taken", 0, base -> x.watch(0, base, 1, 1, 1), 1, 999);
        each("step taken", 0, step -> x.watch(0, 1, step, 1, 1), 1, 999);
        each("hold taken", 0, hold -> x.watch(0, 1, 1, hold, 1), 1, 100);
        each("limit taken", 0, limit -> x.watch(0, 1, 1, 1, limit), 1, 1000);
    }

    private static void promise17State() {
        sentence("promise 17: STATE: the BASE has no ROWS");
        SliceDrift x = new SliceDrift();
        due("no rows at all", STATE, () -> x.watch(0, 999, 1, 1, 1));
        x.row(5, false);
        due("base 1", STATE, () -> x.watch(0, 1, 1, 1, 1));
        due("base 5", STATE, () -> x.watch(0, 5, 1, 1, 1));
        due("base 6", 0, () -> x.watch(0, 6, 1, 1, 1));
        SliceDrift y = new SliceDrift();
        y.row(999, false);
        due("999 is behind every base", STATE, () -> y.watch(0, 999, 1, 1, 1));
        y.row(998, false);
        due("998 is in the greatest", 0, () -> y.watch(0, 999, 1, 1, 1));
        due("rows without values are rows", 1, () -> y.count(3));
    }

    private static void promise17Refused() {
        sentence("promise 17: UNKNOWN; OUTSIDE; STATE");
        SliceDrift x = new SliceDrift();
        due("STATE", STATE, () -> x.watch(0, 1, 1, 1, 1));
        due("UNKNOWN ahead of STATE", UNKNOWN, () -> x.watch(5, 1, 1, 1, 1));
        due("UNKNOWN ahead of OUTSIDE base", UNKNOWN, () -> x.watch(5, 0, 1, 1, 1));
        due("UNKNOWN ahead of OUTSIDE step", UNKNOWN, () -> x.watch(-1, 1, 1000, 1, 1));
        due("UNKNOWN ahead of OUTSIDE hold", UNKNOWN, () -> x.watch(5, 1, 1, 101, 1));
        due("UNKNOWN ahead of OUTSIDE limit", UNKNOWN, () -> x.watch(5, 1, 1, 1, 1001));
        due("OUTSIDE base ahead of STATE", OUTSIDE, () -> x.watch(0, 1000, 1, 1, 1));
        due("OUTSIDE step ahead of STATE", OUTSIDE, () -> x.watch(0, 1, 0, 1, 1));
        due("OUTSIDE hold ahead of STATE", OUTSIDE, () -> x.watch(0, 1, 1, 0, 1));
        due("OUTSIDE limit ahead of STATE", OUTSIDE, () -> x.watch(0, 1, 1, 1, 0));
    }

    private static void promise18What() {
        sentence("promise 18: 0 whether an ALARM is up (1, 0), 1 whether it is OFF, 2 its ROWS, 3 the TIME at which it begins");
        SliceDrift x = played("co-cc");
        x.watch(0, 1, 1, 2, 500);
        steps(x, 0, 0, 1, 1, 1, 0, 0);
        steps(x, 1, 0, 1, 0, 0, 0, 0);
        steps(x, 2, 2, 1, 0, 2, 2, 0);
        steps(x, 3, 1, 2, 3, 4, 5, 6);
        due("last begins", 100, () -> x.step(99, 3));
        SliceDrift y = new SliceDrift();
        y.row(0, false);
        addMany(y, 47, 999, false);
        y.watch(0, 999, 1, 1, 1);
        due("47 rows", 47, () -> y.step(0, 2));
    }

    private static void promise18Latest() {
        sentence("promise 18: of the latest WATCH");
        SliceDrift x = played("ooo");
        x.watch(0, 1, 1, 1, 500);
        steps(x, 0, 1, 1, 1, 1);
        steps(x, 1, 1, 1, 1, 0);
        x.watch(1, 2, 1, 1, 500);
        steps(x, 0, 0, 0, 0, 0);
        steps(x, 1, 0, 0, 0, 0);
        steps(x, 2, 1, 1, 0, 0);
        steps(x, 3, 2, 3, 4, 5);
        x.watch(0, 1, 500, 1, 1000);
        steps(x, 3, 1, 501);
        steps(x, 2, 3, 0);
        due("none of the earlier", UNKNOWN, () -> x.step(2, 3));
    }

    private static void promise18NotRefused() {
        sentence("promise 18: that was not refused");
        SliceDrift x = new SliceDrift();
        add(x, 5, false, 1);
        add(x, 6, false, 2);
        x.watch(0, 6, 300, 1, 1000);
        due("UNKNOWN", UNKNOWN, () -> x.watch(5, 1, 1, 1, 1));
        steps(x, 3, 6, 306, 606, 906);
        due("OUTSIDE", OUTSIDE, () -> x.watch(1, 7, 1, 1, 1001));
        steps(x, 3, 6, 306, 606, 906);
        due("STATE", STATE, () -> x.watch(1, 5, 1, 1, 1));
        steps(x, 0, 1, 1, 1, 1);
        steps(x, 1, 1, 0, 0, 0);
        steps(x, 2, 1, 0, 0, 0);
        steps(x, 3, 6, 306, 606, 906);
        due("how many", 4, () -> x.count(3));
        due("alarms", 1, () -> x.count(4));
    }

    /** The latest WATCH is a call that was made: what comes behind it does not change what it found. */
    private static void promise18AsItWasCalled() {
        sentence("promise 18: of the latest WATCH, as it was called");
        SliceDrift x = played("oc");
        x.watch(0, 1, 1, 1, 500);
        // as if called anew, step 0 would be calm with two rows, step 1 off, and step 2 have a row
        add(x, 1, false, 1);
        x.put(3, 0, 9);
        x.put(4, 0, 9);
        add(x, 3, false, 9);
        steps(x, 0, 1, 0, 0);
        steps(x, 1, 1, 0, 0);
        steps(x, 2, 1, 2, 0);
        steps(x, 3, 1, 2, 3);
        x.watch(0, 1, 1, 1, 500);
        steps(x, 0, 0, 1, 1);
        steps(x, 1, 0, 1, 1);
        steps(x, 2, 2, 2, 1);
    }

    private static void promise18Unknown() {
        sentence("promise 18: UNKNOWN");
        SliceDrift x = played("oc");
        x.watch(0, 1, 250, 1, 500);
        for (int what = 0; what <= 3; what++) {
            int w = what;
            refusedBeside("what " + what + ", k", UNKNOWN, 0, 3, k -> x.step(k, w));
        }
        refusedBeside("what", UNKNOWN, 0, 3, what -> x.step(0, what));
        refusedBeside("what of the last", UNKNOWN, 0, 3, what -> x.step(3, what));
        x.watch(0, 1, 1, 1, 500);
        refusedBeside("k of a hundred", UNKNOWN, 0, 99, k -> x.step(k, 3));
    }

    private static void promise19Rows() {
        sentence("promise 19: 0 ROWS, 1 HITS");
        SliceDrift x = new SliceDrift();
        for (int n = 0; n < 48; n++) {
            int before = n;
            due("rows", before, () -> x.count(0));
            due("hits", (before + 2) / 3, () -> x.count(1));
            x.row(n, n % 3 == 0);
        }
        due("rows of all", 48, () -> x.count(0));
        due("hits of all", 16, () -> x.count(1));
        x.row(0, true);
        due("refused: rows", 48, () -> x.count(0));
        due("refused: hits", 16, () -> x.count(1));
    }

    private static void promise19Lacking() {
        sentence("promise 19: 5 ROWS without a VALUE in some COLUMN");
        SliceDrift x = new SliceDrift();
        due("no rows", 0, () -> x.count(5));
        add(x, 0, false, 0, 0, 0, 0, 0);
        due("none lacks", 0, () -> x.count(5));
        for (int column = 0; column < 5; column++) {
            x.put(0, column, NONE);
            due("column " + column + " lacks", 1, () -> x.count(5));
            x.put(0, column, 9);
            due("column " + column + " has", 0, () -> x.count(5));
        }
        x.row(0, false);
        due("one lacks all", 1, () -> x.count(5));
        x.put(0, 2, NONE);
        due("both lack", 2, () -> x.count(5));
        for (int column = 0; column < 4; column++) {
            x.put(1, column, 0);
        }
        due("one still lacks the last", 2, () -> x.count(5));
        x.put(1, 4, 0);
        due("one has all", 1, () -> x.count(5));
    }

    private static void promise19List() {
        sentence("promise 19: 2 SLICES of THE LIST");
        SliceDrift x = new SliceDrift();
        x.row(0, false);
        due("no list", 0, () -> x.count(2));
        x.slices(1, 1);
        due("five", 5, () -> x.count(2));
        x.put(0, 0, 4);
        x.row(0, false);
        due("as it was made", 5, () -> x.count(2));
        x.slices(1, 3);
        due("not by a refused one", 5, () -> x.count(2));
        x.slices(1, 1);
        due("six", 6, () -> x.count(2));
        x.slices(3, 1);
        due("none", 0, () -> x.count(2));
    }

    private static void promise19Steps() {
        sentence("promise 19: 3 STEPS");
        SliceDrift x = new SliceDrift();
        x.row(0, false);
        due("no watch", 0, () -> x.count(3));
        x.watch(0, 1, 999, 1, 1);
        due("one", 1, () -> x.count(3));
        x.watch(0, 1, 1, 1, 1);
        due("a hundred", 100, () -> x.count(3));
        x.watch(0, 901, 1, 1, 1);
        due("99", 99, () -> x.count(3));
    }

    private static void promise19Alarms() {
        sentence("promise 19: 4 ALARMS that began in that WATCH");
        SliceDrift x = played("ocoocco");
        due("no watch", 0, () -> x.count(4));
        x.watch(0, 1, 1, 1, 500);
        due("held 1", 3, () -> x.count(4));
        x.watch(0, 1, 1, 2, 500);
        due("held 2", 2, () -> x.count(4));
        x.watch(0, 1, 1, 3, 500);
        due("held 3", 1, () -> x.count(4));
        x.watch(0, 1, 1, 3, 501);
        due("none", 0, () -> x.count(4));
        x.watch(0, 1, 1, 1, 500);
        x.watch(0, 1, 1, 1, 0);
        due("that was not refused", 3, () -> x.count(4));
    }

    private static void promise19AsItWasCalled() {
        sentence("promise 19: 3 STEPS, 4 ALARMS that began in that WATCH, as it was called");
        SliceDrift x = played("oc");
        x.watch(0, 1, 1, 1, 500);
        // called anew there is a second alarm, from step 4 on
        add(x, 5, false, 9);
        due("steps", 100, () -> x.count(3));
        due("alarms", 1, () -> x.count(4));
        due("called anew", 1 + 96, () -> x.watch(0, 1, 1, 1, 500));
        due("alarms of that", 2, () -> x.count(4));
        // with another base only step 1 would begin one
        x.put(1, 0, 0);
        due("alarms, whatever the base has now", 2, () -> x.count(4));
        due("called anew again", 99, () -> x.watch(0, 1, 1, 1, 500));
        due("alarms of this", 1, () -> x.count(4));
    }

    private static void promise19Unknown() {
        sentence("promise 19: UNKNOWN");
        SliceDrift x = played("oc");
        refusedBeside("what", UNKNOWN, 0, 5, what -> x.count(what));
    }
}

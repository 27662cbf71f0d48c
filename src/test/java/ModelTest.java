import java.util.Random;

/** Long runs of calls, right and wrong, against a second program that follows the document word by word. */
public final class ModelTest {
    private static final int RUNS = 700;
    private static final int CALLS = 512;

    public static void main(String[] args) {
        Check check = new Check();
        for (int run = 0; run < RUNS; run++) {
            check.begin("run " + run);
            new Run(new Random(9000 + run), check).play();
        }
        check.end();
    }

    /** One object, its model, and a source of calls whose seed is written down. */
    private static final class Run {
        private final SliceDrift subject = new SliceDrift();
        private final Model model = new Model();
        private final Random random;
        private final Check check;
        private final int values;
        private final int times;
        private final int few;

        Run(Random random, Check check) {
            this.random = random;
            this.check = check;
            values = 1 + random.nextInt(10);
            times = new int[] {6, 12, 40, 1000}[random.nextInt(4)];
            few = random.nextInt(3) == 0 ? 100 : 20;
        }

        void play() {
            for (int call = 0; call < CALLS; call++) {
                boolean filling = call < 300 && random.nextInt(3) != 0;
                one(filling ? (random.nextInt(4) == 0 ? 0 : 1) : random.nextInt(18));
            }
            everyStored();
        }

        private void one(int kind) {
            int a = column(), from = time(), middle = from + time() / 2, to = middle + time();
            int b = column(), part = near(0, 1), i = near(0, 5);
            switch (kind) {
                case 0: {
                    if (model.rows.size() >= few && random.nextInt(10) != 0) return;
                    int t = random.nextInt(30) == 0 ? odd() : random.nextInt(times);
                    boolean hit = random.nextBoolean();
                    same("row " + t + " " + hit, () -> model.row(t, hit), () -> subject.row(t, hit));
                    return;
                }
                case 1: {
                    int row = near(0, Math.max(0, model.rows.size() - 1)), value = near(-1, values - 1);
                    same("put " + row + " " + a + " " + value,
                        () -> model.put(row, a, value), () -> subject.put(row, a, value));
                    return;
                }
                case 2: {
                    int row = near(0, Math.max(0, model.rows.size() - 1)), what = near(0, 6);
                    same("of " + row + " " + what, () -> model.of(row, what), () -> subject.of(row, what));
                    return;
                }
                case 3: {
                    int least = random.nextInt(3) == 0 ? near(1, 48) : near(1, 4), deep = near(1, 2);
                    same("slices " + least + " " + deep,
                        () -> model.slices(least, deep), () -> subject.slices(least, deep));
                    return;
                }
                case 4: {
                    int at = near(0, Math.max(0, model.list.size() - 1)), what = near(0, 5);
                    same("slice " + at + " " + what, () -> model.slice(at, what), () -> subject.slice(at, what));
                    return;
                }
                case 5: {
                    int at = near(0, Math.max(0, model.list.size() - 1)), k = near(0, 6);
                    same("member " + at + " " + k, () -> model.member(at, k), () -> subject.member(at, k));
                    return;
                }
                case 6: {
                    int at = near(0, Math.max(0, model.list.size() - 1)), side = near(0, 1);
                    same("share " + at + " " + side + " " + part,
                        () -> model.share(at, side, part), () -> subject.share(at, side, part));
                    return;
                }
                case 7: {
                    int sort = random.nextInt(4) == 0 ? near(0, 10) : near(0, values - 1), other = near(0, 10);
                    same("gap " + a + " " + sort + " " + other + " " + part,
                        () -> model.gap(a, sort, other, part), () -> subject.gap(a, sort, other, part));
                    return;
                }
                case 8: {
                    same("window " + from + " " + to, () -> model.window(from, to), () -> subject.window(from, to));
                    return;
                }
                case 9: {
                    same("drift " + told(a, from, middle, to, part),
                        () -> model.drift(a, from, middle, to, part), () -> subject.drift(a, from, middle, to, part));
                    return;
                }
                case 10: {
                    same("rise " + told(a, from, middle, to, 0),
                        () -> model.rise(a, from, middle, to), () -> subject.rise(a, from, middle, to));
                    return;
                }
                case 11: {
                    same("odds " + told(a, from, middle, to, part),
                        () -> model.odds(a, from, middle, to, part), () -> subject.odds(a, from, middle, to, part));
                    return;
                }
                case 12: {
                    int at = near(-1, 3);
                    same("fresh " + told(a, from, middle, to, at),
                        () -> model.fresh(a, from, middle, to, at), () -> subject.fresh(a, from, middle, to, at));
                    return;
                }
                case 13: {
                    same("shift " + a + " " + told(b, from, middle, to, part),
                        () -> model.shift(a, b, from, middle, to, part),
                        () -> subject.shift(a, b, from, middle, to, part));
                    return;
                }
                case 14: {
                    int at = near(0, 4);
                    same("order " + told(at, from, middle, to, 0),
                        () -> model.order(from, middle, to, at), () -> subject.order(from, middle, to, at));
                    return;
                }
                case 15: {
                    int base = random.nextInt(5) == 0 ? near(1, 999) : near(1, times / 2);
                    int step = random.nextInt(5) == 0 ? near(1, 999) : near(1, Math.max(1, times / 8));
                    int hold = random.nextInt(5) == 0 ? near(1, 100) : near(1, 4);
                    int limit = random.nextInt(3) == 0 ? near(1, 1000) : 50 * near(1, 20);
                    same("watch " + told(a, base, step, hold, limit),
                        () -> model.watch(a, base, step, hold, limit), () -> subject.watch(a, base, step, hold, limit));
                    return;
                }
                case 16: {
                    int k = near(0, 99), what = near(0, 3);
                    same("step " + k + " " + what, () -> model.step(k, what), () -> subject.step(k, what));
                    return;
                }
                default: {
                    same("count " + i, () -> model.count(i), () -> subject.count(i));
                }
            }
        }

        /** All that the last slices and watch left behind; beyond the 512 calls only our own class need answer. */
        private void everyStored() {
            for (int i = 0; i <= model.list.size(); i++) {
                int at = i;
                for (int w = 0; w < 6; w++) {
                    int what = w;
                    same("last slice " + at + " " + what, () -> model.slice(at, what), () -> subject.slice(at, what));
                    same("last share " + at + " " + what, () -> model.share(at, what / 2, what % 2),
                        () -> subject.share(at, what / 2, what % 2));
                }
                for (int m = -1; m < 6; m++) {
                    int k = m;
                    same("last member " + at + " " + k, () -> model.member(at, k), () -> subject.member(at, k));
                }
            }
            for (int s = -1; s <= 100; s++) {
                int k = s;
                for (int w = -1; w <= 4; w++) {
                    int what = w;
                    same("last step " + k + " " + what, () -> model.step(k, what), () -> subject.step(k, what));
                }
            }
        }

        private void same(String call, Check.Call due, Check.Call got) {
            check.due(call, Check.answerOf(due), got);
        }

        private static String told(int a, int b, int c, int d, int e) {
            return a + " " + b + " " + c + " " + d + " " + e;
        }

        private int column() {
            return random.nextInt(25) == 0 ? odd() : random.nextInt(5);
        }

        private int time() {
            return random.nextInt(40) == 0 ? odd() : random.nextInt(times + 2);
        }

        /** Mostly one of least .. most, now and then one beside it or far off. */
        private int near(int least, int most) {
            int dice = random.nextInt(40);
            if (dice == 0) return most + 1;
            if (dice == 1) return least - 1;
            if (dice == 2) return odd();
            return least + random.nextInt(most - least + 1);
        }

        private int odd() {
            int[] odd = {-1, -2, 5, 10, 11, 47, 48, 99, 100, 999, 1000, 1001,
                Integer.MAX_VALUE, Integer.MIN_VALUE, -1000001};
            return odd[random.nextInt(odd.length)];
        }
    }
}

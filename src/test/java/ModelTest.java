import java.util.Random;

/** Runs of drawn calls (by told seeds, so always the same), each answered by the class and by the model. */
public final class ModelTest {
    private static final int RUNS = 400;
    private static final int CALLS = 512;

    private final Random random;
    private final int run;
    private final MountainsInMourning x = new MountainsInMourning();
    private final Model y = new Model();

    private ModelTest(int run) {
        this.run = run;
        random = new Random(run * 7919L + 13);
    }

    public static void main(String[] args) {
        int runs = args.length > 0 ? Integer.parseInt(args[0]) : RUNS;
        for (int run = 0; run < runs; run++) {
            new ModelTest(run).go();
        }
        Due.end();
    }

    private void due(String call, long got, long want) {
        Due.due("run " + run + ": " + call, got, want);
    }

    private int draw(int from, int to) {
        return from + random.nextInt(to - from + 1);
    }

    /** Mostly from one number to another, at times just beyond, seldom far off. */
    private int near(int from, int to) {
        int what = random.nextInt(30);
        if (what == 0) {
            return draw(0, 1) == 0 ? from - 1 : to + 1;
        }
        if (what == 1 && random.nextInt(6) == 0) {
            int[] afar = {Integer.MIN_VALUE, Integer.MAX_VALUE, -1, 1000, 1 << 20, -12345};
            return afar[random.nextInt(afar.length)];
        }
        return to < from ? from : draw(from, to);
    }

    private int aPeak() {
        return near(0, y.w.peaks.size() - 1);
    }

    private int aShelf() {
        return near(0, 7);
    }

    private void go() {
        int peaks = draw(0, 10);
        for (int i = 0; i < peaks; i++) {
            peak();
            if (draw(0, 3) == 0) {
                years(draw(1, 60));
            }
        }
        due("image", x.image(), y.image());
        for (int i = 0; i < CALLS - 60; i++) {
            call();
            if (y.w.standing() < Math.min(3, peaks) && draw(0, 3) == 0) {
                due("restore", x.restore(), y.restore());
                years(draw(1, 99));
            }
            if (draw(0, 15) == 0) {
                lookAll();
            }
        }
        end();
    }

    /** Who sees whom, who mourns and who is black, now and later. */
    private void lookAll() {
        for (int p = 0; p < y.w.peaks.size(); p++) {
            due("peakOf " + p + " 5", x.peakOf(p, 5), y.peakOf(p, 5));
            due("peakOf " + p + " 6", x.peakOf(p, 6), y.peakOf(p, 6));
            due("black " + p, x.black(p, 0), y.black(p, 0));
        }
        for (int n = 0; n < 100; n += draw(1, 30)) {
            due("behind " + n + " 0", x.behind(n, 0), y.behind(n, 0));
            due("behind " + n + " 1", x.behind(n, 1), y.behind(n, 1));
        }
    }

    private void peak() {
        int kind = near(0, 6);
        int a = near(0, 9);
        int place = near(0, 99);
        int height = draw(0, 3) == 0 ? draw(1, 5) : near(1, draw(0, 1) == 0 ? 100 : 999);
        due("peak " + kind + " " + a + " " + place + " " + height, x.peak(kind, a, place, height), y.peak(kind, a, place, height));
    }

    private void years(int n) {
        due("years " + n, x.years(n), y.years(n));
    }

    private void call() {
        switch (draw(0, 5)) {
            case 0:
                shelves();
                break;
            case 1:
                if (draw(0, 2) == 0) {
                    changes();
                } else {
                    plain();
                }
                break;
            case 2:
                text();
                break;
            case 3:
                takings();
                break;
            case 4:
                plain();
                break;
            default:
                questions();
                break;
        }
    }

    private void shelves() {
        int s = aShelf();
        int t = aShelf();
        int i = near(0, 12);
        int j = near(0, 12);
        int n = near(0, 12);
        switch (draw(0, 7)) {
            case 0:
                int sort = near(0, 3);
                int size = draw(0, 3) == 0 ? near(150, 160) : near(0, 14);
                due("row", x.row(s, sort, size), y.row(s, sort, size));
                break;
            case 1:
                long v = random.nextLong() >> draw(0, 63);
                due("set", x.set(s, i, v), y.set(s, i, v));
                break;
            case 2:
                due("copy", x.copy(s, t, i, j, n), y.copy(s, t, i, j, n));
                break;
            case 3:
                due("copy", x.copy(s, s, i, j, n), y.copy(s, s, i, j, n));
                break;
            case 4:
                due("element", x.element(s, i), y.element(s, i));
                break;
            case 5:
                int peak = draw(0, 4) == 0 ? -1 : aPeak();
                due("show", x.show(s, peak), y.show(s, peak));
                break;
            case 6:
                due("holds", x.holds(s), y.holds(s));
                break;
            default:
                int kind = near(0, 6);
                due("says", x.says(s, kind), y.says(s, kind));
                break;
        }
    }

    private void changes() {
        int p = aPeak();
        int n = near(0, 200);
        switch (draw(0, 11)) {
            case 0:
                peak();
                break;
            case 1:
                int place = near(0, 99);
                int height = draw(0, 1) == 0 ? near(1, 30) : near(1, 999);
                due("screen", x.screen(place, height), y.screen(place, height));
                break;
            case 2:
                int milk = near(0, 999);
                due("valley", x.valley(milk), y.valley(milk));
                break;
            case 3:
            case 4:
                int v = near(0, y.w.milks.size() - 1);
                boolean is = draw(0, 3) > 0;
                due("under", x.under(v, p, is), y.under(v, p, is));
                break;
            case 5:
                due("take", x.take(p), y.take(p));
                break;
            case 6:
            case 7:
                years(n);
                break;
            case 8:
                int few = draw(0, 3) == 0 ? n : draw(1, 10);
                due("ages", x.ages(few), y.ages(few));
                break;
            case 9:
                int seed = random.nextInt();
                due("seed", x.seed(seed), y.seed(seed));
                break;
            case 10:
                due("image", x.image(), y.image());
                break;
            default:
                due("restore", x.restore(), y.restore());
                break;
        }
    }

    private void plain() {
        int p = aPeak();
        int q = aPeak();
        int n = near(0, 200);
        switch (draw(0, 10)) {
            case 0:
                int what = near(0, 6);
                due("peakOf " + p + " " + what, x.peakOf(p, what), y.peakOf(p, what));
                break;
            case 1:
                int valley = near(0, y.w.milks.size() - 1);
                int which = near(0, 2);
                due("valleyOf", x.valleyOf(valley, which), y.valleyOf(valley, which));
                break;
            case 2:
                due("since " + p + " " + q, x.since(p, q), y.since(p, q));
                break;
            case 3:
                due("black", x.black(p, n), y.black(p, n));
                break;
            case 4:
                int of = near(0, 1);
                due("behind " + n + " " + of, x.behind(n, of), y.behind(n, of));
                break;
            case 5:
                due("yields " + n, x.yields(n), y.yields(n));
                break;
            case 6:
                int move = near(0, 2);
                int v = random.nextInt() >> draw(0, 31);
                due("act", x.act(p, move, v), y.act(p, move, v));
                break;
            case 7:
                int i = near(0, 10);
                due("trace", x.trace(i), y.trace(i));
                break;
            case 8:
                int told = near(0, 20);
                due("status " + told, x.status(told), y.status(told));
                break;
            case 9:
                due("grief " + p, x.grief(p), y.grief(p));
                break;
            default:
                due("fault", x.fault(), y.fault());
                break;
        }
    }

    private void questions() {
        int p = aPeak();
        int q = aPeak();
        switch (draw(0, 12)) {
            case 0:
                if (draw(0, 3) == 0) {
                    due("white", x.white(), y.white());
                }
                break;
            case 1:
                due("least", x.least(), y.least());
                break;
            case 2:
                int k = draw(0, 4) == 0 ? near(1, 3) : draw(1, 2);
                int i = near(-1, Math.min(Math.abs(k % 5), 3) - 1);
                due("order " + k + " " + i, x.order(k, i), y.order(k, i));
                break;
            case 3:
                due("cost " + p, x.cost(p), y.cost(p));
                break;
            case 4:
                int place = near(0, 99);
                due("screened " + p + " " + q + " " + place, x.screened(p, q, place), y.screened(p, q, place));
                break;
            case 5:
                if (draw(0, 9) == 0) {
                    due("hide " + p + " " + q, x.hide(p, q), y.hide(p, q));
                }
                break;
            case 6:
                int set = near(0, (1 << y.w.peaks.size()) - 1);
                due("fires " + set, x.fires(set), y.fires(set));
                break;
            case 7:
                due("send", x.send(), y.send());
                break;
            case 8:
                due("chain " + p + " " + q, x.chain(p, q), y.chain(p, q));
                break;
            case 9:
                int what = near(0, 1);
                due("lacks " + what, x.lacks(what), y.lacks(what));
                break;
            case 10:
                int v = draw(0, 1) == 0 ? near(0, 20) : near(0, 500);
                due("spared " + p + " " + v, x.spared(p, v), y.spared(p, v));
                break;
            default:
                fits();
                break;
        }
    }

    private void fits() {
        int s = aShelf();
        int n = y.w.peaks.size() + draw(-1, 2);
        if (draw(0, 9) > 0 && n >= 0 && s >= 0 && s < 8) {
            Model.World lost = y.w.copy();
            int stands = y.least();
            if (stands >= 0) {
                lost.lose(draw(0, 1) == 0 ? stands : y.send());
            }
            long[] numbers = new long[n];
            for (int i = 0; i < n; i++) {
                numbers[i] = draw(0, 2) == 0 || i >= lost.peaks.size() ? -1 : lost.peaks.get(i).until;
                if (draw(0, 12) == 0) {
                    numbers[i] += draw(-1, 1);
                }
            }
            fill(s, draw(2, 3), numbers);
        }
        due("fits", x.fits(s), y.fits(s));
    }

    private void takings() {
        int s = aShelf();
        int n = near(0, draw(0, 5) == 0 ? 21 : 8);
        if (draw(0, 2) > 0 && n >= 0 && n <= 30) {
            long[] numbers = new long[Math.max(0, n + draw(-1, 4))];
            for (int i = 0; i < numbers.length; i++) {
                numbers[i] = draw(0, 1) == 0 ? aPeak() : near(101, 199);
            }
            fill(s, draw(1, 3), numbers);
        }
        switch (draw(0, 9)) {
            case 0:
                due("done", x.done(s, n), y.done(s, n));
                break;
            case 1:
            case 2:
            case 3:
                due("judge", x.judge(s, n), y.judge(s, n));
                break;
            default:
                int what = near(0, 2);
                due("told", x.told(s, n, what), y.told(s, n, what));
                break;
        }
    }

    private void text() {
        int s = aShelf();
        if (draw(0, 9) > 0) {
            StringBuilder text = new StringBuilder();
            int items = draw(0, 3) == 0 ? draw(1, 6) : draw(1, 3);
            for (int i = 0; i < items; i++) {
                item(text.append(i > 0 ? ";" : ""));
            }
            spoil(text);
            long[] letters = new long[Math.min(160, text.length())];
            for (int i = 0; i < letters.length; i++) {
                letters[i] = text.charAt(i);
            }
            fill(s, draw(0, 3), letters);
        }
        due("range", x.range(s), y.range(s));
        due("fault", x.fault(), y.fault());
    }

    private void item(StringBuilder text) {
        switch (draw(0, 9)) {
            case 0:
                text.append("peak ").append(near(0, 6)).append(' ').append(near(0, 9)).append(' ').append(near(0, 99))
                    .append(' ').append(near(1, 99));
                break;
            case 1:
                text.append("screen ").append(near(0, 99)).append(draw(0, 4) == 0 ? " 0" : " ").append(near(1, 999));
                break;
            case 2:
                text.append("valley ").append(near(0, 999));
                break;
            case 3:
            case 4:
                text.append("take ").append(aPeak());
                break;
            case 5:
            case 6:
                text.append("years ").append(draw(0, 4) == 0 ? "00" : "").append(near(1, 99));
                break;
            default:
                text.append("under ").append(near(0, y.w.milks.size() - 1)).append(' ').append(aPeak());
                break;
        }
    }

    private void spoil(StringBuilder text) {
        String some = "peaksc rnvludytk;0123456789x";
        int at = random.nextInt(text.length());
        switch (draw(0, 9)) {
            case 0:
                text.setLength(at);
                break;
            case 1:
                text.setCharAt(at, some.charAt(random.nextInt(some.length())));
                break;
            case 2:
                text.insert(at, some.charAt(random.nextInt(some.length())));
                break;
            case 3:
                text.deleteCharAt(at);
                break;
            default:
                break;
        }
    }

    private void fill(int s, int sort, long[] elements) {
        due("row", x.row(s, sort, elements.length), y.row(s, sort, elements.length));
        for (int i = 0; i < elements.length; i++) {
            long v = elements[i] + (sort == 3 && draw(0, 9) == 0 ? 1L << 40 : 0L);
            due("set", x.set(s, i, v), y.set(s, i, v));
        }
    }

    /** All that can be asked without changing anything, at the end. */
    private void end() {
        for (int what = -1; what <= 19; what++) {
            due("status " + what, x.status(what), y.status(what));
        }
        for (int p = 0; p < y.w.peaks.size(); p++) {
            for (int what = 0; what <= 6; what++) {
                due("peakOf " + p + " " + what, x.peakOf(p, what), y.peakOf(p, what));
            }
        }
        for (int s = 0; s < 8; s++) {
            due("holds " + s, x.holds(s), y.holds(s));
            for (int i = 0; i < 160; i++) {
                due("element " + s + " " + i, x.element(s, i), y.element(s, i));
            }
        }
        due("white", x.white(), y.white());
        if (draw(0, 20) == 0) {
            due("order 3", x.order(3, -1), y.order(3, -1));
        }
    }
}

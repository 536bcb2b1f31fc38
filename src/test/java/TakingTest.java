/** Promises 34 to 40: told takings, and what comes to pass in truth. */
public final class TakingTest {
    public static void main(String[] args) {
        judge();
        judgeRefusals();
        told();
        toldRefusals();
        done();
        doneRefusals();
        take();
        years();
        seed();
        ages();
        agesLose();
        Due.end();
    }

    private static void judge() {
        MountainsInMourning x = Due.inARow(0, 0, 0);
        x.take(2);
        long[] wrong = {-1, 2, 3, 10, 99, 100, 200, 1000, Integer.MIN_VALUE, Integer.MAX_VALUE};
        for (long taking : wrong) {
            Due.numbers(x, 0, 2, 0, 101, taking, 1);
            Due.due("judge of " + taking, x.judge(0, 4), 2);
            Due.due("judge of what is ahead of " + taking, x.judge(0, 2), -1);
        }
        Due.numbers(x, 0, 2, 199, 1, 101, 0, 0);
        Due.due("all can be", x.judge(0, 4), -1);
        Due.due("one can't be lost twice", x.judge(0, 5), 4);
        Due.due("none are told", x.judge(0, 0), -1);
        Due.numbers(x, 0, 3, (1L << 32) + 1, (1L << 33) + 150);
        Due.due("longs count by their lowest bits", x.judge(0, 2), -1);
        Due.numbers(x, 0, 0, 0, 199);
        Due.due("199 isn't a byte", x.judge(0, 2), 1);
        Due.due("nothing has changed", x.status(1), 2);
        Due.due("nothing has changed", x.status(4), 0);
    }

    private static void judgeRefusals() {
        MountainsInMourning x = Due.inARow(0);
        x.show(1, 0);
        x.row(0, 2, 30);
        x.row(2, 2, 20);
        for (int i = 0; i < 30; i++) {
            x.set(0, i, 101);
            x.set(2, i, 101);
        }
        Due.due("no shelf", x.judge(8, -1), -11);
        Due.due("a peak", x.judge(1, -1), -12);
        Due.due("nothing", x.judge(3, -1), -13);
        Due.due("n below", x.judge(0, -1), -14);
        Due.due("fewer elements", x.judge(0, 31), -15);
        Due.due("fewer elements", x.judge(2, 21), -15);
        Due.due("n above 20", x.judge(0, 21), -16);
        Due.due("20", x.judge(0, 20), -1);
        Due.refused(x, 1, 1, 1, 1, 2 + 10, 1, 0);
    }

    private static void told() {
        MountainsInMourning x = Due.inARow(0, 6, 0, 1);
        x.years(5);
        Due.numbers(x, 0, 2, 0, 110, 2, 101);
        Due.due("grief of none", x.told(0, 0, 0), 0);
        Due.due("black ones now", x.told(0, 0, 1), 0);
        Due.due("year now", x.told(0, 0, 2), 5);
        Due.due("grief of one", x.told(0, 1, 0), 10);
        Due.due("black ones behind one", x.told(0, 1, 1), 2);
        Due.due("black ones behind 10 years", x.told(0, 2, 1), 0);
        Due.due("grief of two: the old one 30 years, the polite one 15", x.told(0, 3, 0), 10 + 30 + 15);
        Due.due("black ones behind two", x.told(0, 3, 1), 2 + 8);
        Due.due("year", x.told(0, 4, 2), 16);
        Due.due("nothing is changed", x.status(1), 4);
        Due.due("nothing is changed", x.status(4), 5);
        Due.due("nothing is changed", x.peakOf(1, 5), 0);
        Due.numbers(x, 0, 2, 2, 120, 1);
        Due.due("who sees whom since the first was lost: 3 saw 1 for 20 years, 0 for 25", x.told(0, 3, 0), 10 + 5 + 25 + 20);
    }

    private static void toldRefusals() {
        MountainsInMourning x = Due.inARow(0, 0);
        x.show(1, 0);
        x.row(0, 2, 30);
        Due.due("no shelf", x.told(8, -1, 3), -1);
        Due.due("a peak", x.told(1, -1, 3), -2);
        Due.due("nothing", x.told(3, -1, 3), -3);
        Due.due("n below", x.told(0, -1, 3), -4);
        Due.due("another what", x.told(0, 21, 3), -5);
        Due.due("another what", x.told(0, 0, -1), -5);
        Due.due("fewer elements", x.told(0, 31, 0), -5);
        Due.due("n above 20", x.told(0, 21, 0), -6);
        Due.due("wrong", x.told(0, 2, 0), -6);
        Due.due("wrong, but another what ahead of it", x.told(0, 2, 3), -5);
        Due.refused(x, 1, 1, 1, 1, 4, 2, 0);
    }

    private static void done() {
        MountainsInMourning x = Due.inARow(0, 6, 0, 1);
        x.years(5);
        Due.numbers(x, 0, 2, 0, 110, 2, 101);
        Due.due("none", x.done(0, 0), 5);
        Due.due("done", x.done(0, 4), 16);
        Due.due("the year", x.status(4), 16);
        Due.due("those that stand", x.status(1), 2);
        Due.due("UNTIL", x.peakOf(1, 5), 45);
        Due.due("UNTIL", x.peakOf(3, 5), 30);
        Due.due("the new sight", x.since(1, 3), 15);
    }

    private static void doneRefusals() {
        MountainsInMourning x = Due.inARow(0, 0);
        x.show(1, 0);
        x.row(0, 2, 30);
        Due.due("no shelf", x.done(-1, -1), -1);
        Due.due("a peak", x.done(1, -1), -2);
        Due.due("nothing", x.done(3, -1), -3);
        Due.due("n below", x.done(0, -1), -4);
        Due.due("fewer elements", x.done(0, 31), -5);
        Due.due("n above 20", x.done(0, 21), -6);
        Due.due("wrong", x.done(0, 2), -6);
        Due.due("nothing has changed", x.status(1), 2);
        Due.refused(x, 1, 1, 1, 1, 1, 2, 0);
    }

    private static void take() {
        MountainsInMourning x = Due.inARow(0, 6, 2);
        x.years(9);
        Due.due("no peak", x.take(3), -1);
        Due.due("no peak", x.take(-1), -1);
        Due.due("its grief", x.take(1), 9 + 4);
        Due.due("it is lost already", x.take(1), -6);
        Due.due("UNTIL of the first", x.peakOf(0, 5), 18);
        Due.due("UNTIL of the young one", x.peakOf(2, 5), 13);
        Due.due("those that stand", x.status(1), 2);
        Due.due("seen for no year yet: no grief", x.take(0), 0);
        Due.refused(x, 2, 0, 0, 0, 0, 1, 0);
    }

    private static void years() {
        MountainsInMourning x = new MountainsInMourning();
        Due.due("none", x.years(0), -6);
        Due.due("too many", x.years(1000), -6);
        Due.due("below", x.years(-1), -6);
        Due.due("years", x.years(999), 999);
        Due.due("years", x.years(1), 1000);
        Due.due("status", x.status(4), 1000);
        Due.refused(x, 0, 0, 0, 0, 0, 3, 0);
    }

    private static void seed() {
        MountainsInMourning x = new MountainsInMourning();
        Due.due("at first", x.seed(Integer.MIN_VALUE), 1);
        Due.due("what it was", x.seed(7), Integer.MIN_VALUE);
        Due.due("status", x.status(6), 7);
        Due.refused(x, 0, 0, 0, 0, 0, 0, 0);
    }

    private static void ages() {
        MountainsInMourning x = new MountainsInMourning();
        Due.due("none", x.ages(0), -6);
        Due.due("too many", x.ages(201), -6);
        Due.due("the seed is left", x.status(6), 1);
        Due.due("one year without peaks", x.ages(1), 0);
        Due.due("one draw", x.status(6), 1103515245 + 12345);
        Due.due("a year", x.status(4), 1);
        Due.due("200 years", x.ages(200), 0);
        Due.due("years", x.status(4), 201);
        int seed = 1103515245 + 12345;
        for (int i = 0; i < 200; i++) {
            seed = seed * 1103515245 + 12345;
        }
        Due.due("a draw a year and no more, as none stands", x.status(6), seed);
        Due.refused(x, 0, 0, 0, 0, 0, 2, 0);
    }

    /** The draws again, by longs. */
    private static long seedNow;

    private static int draw(int n) {
        seedNow = (seedNow * 1103515245L + 12345L) & 0xFFFFFFFFL;
        return (int) (seedNow / 65536 % n);
    }

    private static void agesLose() {
        for (int seed = -40; seed < 40; seed++) {
            MountainsInMourning x = Due.inARow(0, 1, 2, 3, 4, 5, 6);
            MountainsInMourning y = Due.inARow(0, 1, 2, 3, 4, 5, 6);
            x.take(2);
            y.take(2);
            x.seed(seed * 123456789);
            seedNow = seed * 123456789 & 0xFFFFFFFFL;
            int lost = 0;
            for (int year = 0; year < 60; year++) {
                if (draw(20) == 0 && y.status(1) > 0) {
                    int which = draw(y.status(1));
                    for (int p = 0; p < 7; p++) {
                        if (y.peakOf(p, 4) == 1 && which-- == 0) {
                            y.take(p);
                            lost++;
                        }
                    }
                }
                y.years(1);
            }
            Due.due("ages by seed " + seed, x.ages(60), lost);
            Due.due("the seed behind", x.status(6), (int) seedNow);
            Due.due("the year behind", x.status(4), 60);
            for (int p = 0; p < 7; p++) {
                Due.due("stands", x.peakOf(p, 4), y.peakOf(p, 4));
                Due.due("until", x.peakOf(p, 5), y.peakOf(p, 5));
                Due.due("sees", x.peakOf(p, 6), y.peakOf(p, 6));
            }
        }
    }
}

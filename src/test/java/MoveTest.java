/** Promises 41 to 45: moves and their trace, the image, status. */
public final class MoveTest {
    public static void main(String[] args) {
        act();
        traces();
        actOfNone();
        image();
        imageLeaves();
        shelvesOfTheImage();
        status();
        constant();
        Due.end();
    }

    private static MountainsInMourning ofAllKinds() {
        MountainsInMourning x = new MountainsInMourning();
        for (int kind = 0; kind <= 6; kind++) {
            x.peak(kind, 9 - kind, 10 * kind, 10);
        }
        return x;
    }

    /** The bodies by real classes, as the document tells them. */
    private static class Peak {
        final int m;
        final int k;

        Peak(int m, int k) {
            this.m = m;
            this.k = k;
        }

        int sees(int x) {
            return x + m;
        }

        int mourns(int x) {
            return sees(x) * 2;
        }

        int leans(int x) {
            return mourns(x) ^ sees(x - k);
        }
    }

    private static class Polite extends Peak {
        Polite(int m, int k) {
            super(m, k);
        }

        @Override
        int sees(int x) {
            return super.sees(x) + k;
        }
    }

    private static class Young extends Peak {
        Young(int m, int k) {
            super(m, k);
        }

        @Override
        int mourns(int x) {
            return super.mourns(x) * 3;
        }
    }

    private static class Courtly extends Polite {
        Courtly(int m, int k) {
            super(m, k);
        }

        @Override
        int mourns(int x) {
            return super.mourns(x + 1);
        }
    }

    private static class Far extends Peak {
        Far(int m, int k) {
            super(m, k);
        }

        @Override
        int leans(int x) {
            return -super.leans(x);
        }

        @Override
        int sees(int x) {
            return super.sees(x) - m;
        }
    }

    private static class Spring extends Young {
        Spring(int m, int k) {
            super(m, k);
        }

        @Override
        int leans(int x) {
            return super.leans(x) ^ 5;
        }
    }

    private static class Old extends Far {
        Old(int m, int k) {
            super(m, k);
        }

        @Override
        int sees(int x) {
            return super.sees(x) * 2;
        }

        @Override
        int mourns(int x) {
            return super.mourns(x - k);
        }
    }

    private static Peak of(int kind, int m, int k) {
        switch (kind) {
            case 1:
                return new Polite(m, k);
            case 2:
                return new Young(m, k);
            case 3:
                return new Courtly(m, k);
            case 4:
                return new Far(m, k);
            case 5:
                return new Spring(m, k);
            case 6:
                return new Old(m, k);
            default:
                return new Peak(m, k);
        }
    }

    private static void act() {
        MountainsInMourning x = ofAllKinds();
        x.take(3);
        int[] tried = {0, 1, -1, 5, 100, 1 << 30, Integer.MAX_VALUE, Integer.MIN_VALUE, -1234567890};
        for (int kind = 0; kind <= 6; kind++) {
            Peak peak = of(kind, kind, 9 - kind);
            for (int v : tried) {
                Due.due("kind " + kind + " sees " + v, x.act(kind, 0, v), peak.sees(v));
                Due.due("kind " + kind + " mourns " + v, x.act(kind, 1, v), peak.mourns(v));
                Due.due("kind " + kind + " leans " + v, x.act(kind, 2, v), peak.leans(v));
            }
        }
    }

    private static void traces() {
        MountainsInMourning x = ofAllKinds();
        trace(x, 0, 0, 10);
        trace(x, 0, 1, 11, 10);
        trace(x, 0, 2, 12, 11, 10, 10);
        trace(x, 1, 0, 20, 10);
        trace(x, 1, 2, 12, 11, 20, 10, 20, 10);
        trace(x, 2, 1, 30, 11, 10);
        trace(x, 2, 2, 12, 30, 11, 10, 10);
        trace(x, 3, 1, 40, 11, 20, 10);
        trace(x, 3, 2, 12, 40, 11, 20, 10, 20, 10);
        trace(x, 4, 0, 51, 10);
        trace(x, 4, 1, 11, 51, 10);
        trace(x, 4, 2, 50, 12, 11, 51, 10, 51, 10);
        trace(x, 5, 2, 60, 12, 30, 11, 10, 10);
        trace(x, 6, 0, 70, 51, 10);
        trace(x, 6, 1, 71, 11, 70, 51, 10);
        trace(x, 6, 2, 50, 12, 71, 11, 70, 51, 10, 70, 51, 10);
        Due.due("the trace is that of the latest", x.act(0, 0, 1), 1);
        Due.due("its first", x.trace(0), 10);
        Due.due("no second", x.trace(1), -1);
    }

    private static void trace(MountainsInMourning x, int peak, int move, int... bodies) {
        x.act(peak, move, 3);
        for (int i = 0; i < bodies.length; i++) {
            Due.due("trace(" + i + ") of peak " + peak + ", move " + move, x.trace(i), bodies[i]);
        }
        Due.due("trace behind the end", x.trace(bodies.length), -1);
        Due.due("trace ahead of the first", x.trace(-1), -1);
        Due.due("how many ran", x.status(7), bodies.length);
    }

    private static void actOfNone() {
        MountainsInMourning x = ofAllKinds();
        int[][] none = {{7, 0}, {-1, 0}, {0, 3}, {0, -1}, {7, 3}};
        for (int[] call : none) {
            x.act(6, 2, 1);
            Due.due("act of no such peak or move", x.act(call[0], call[1], 5), 0);
            Due.due("no trace", x.trace(0), -1);
            Due.due("none ran", x.status(7), 0);
        }
        Due.refused(x, 0, 0, 0, 0, 0, 0, 0);
    }

    private static void image() {
        MountainsInMourning x = new MountainsInMourning();
        Due.due("no image", x.restore(), -6);
        x.peak(0, 0, 0, 10);
        x.peak(6, 3, 20, 10);
        x.valley(40);
        x.under(0, 1, true);
        x.screen(5, 9);
        x.years(8);
        x.seed(99);
        Due.due("image", x.image(), 2);
        x.take(0);
        x.years(5);
        x.peak(1, 0, 10, 500);
        x.screen(15, 999);
        x.valley(3);
        x.under(0, 1, false);
        x.ages(7);
        Due.due("restore", x.restore(), 2);
        int[] due = {2, 2, 1, 1, 8, 0, 99};
        for (int what = 0; what < due.length; what++) {
            Due.due("status(" + what + ") of the image", x.status(what), due[what]);
        }
        Due.due("under", x.valleyOf(0, 1), 2);
        Due.due("it stands again", x.peakOf(0, 4), 1);
        Due.due("none is mourned", x.peakOf(1, 5), 0);
        Due.due("since", x.since(1, 0), 0);
        x.take(1);
        Due.due("restore once more", x.restore(), 2);
        Due.due("it stands again", x.peakOf(1, 4), 1);
        x.peak(0, 0, 90, 1);
        Due.due("a later image", x.image(), 3);
        x.take(2);
        Due.due("restore the later one", x.restore(), 3);
        Due.due("those that stand", x.status(1), 3);
    }

    private static void imageLeaves() {
        MountainsInMourning x = new MountainsInMourning();
        x.peak(0, 0, 0, 10);
        x.image();
        Due.letters(x, 0, 0, "years x");
        x.range(0);
        x.act(0, 1, 4);
        x.restore();
        Due.due("the fault stays", x.fault(), 6);
        Due.due("refusals stay", x.status(16), 1);
        Due.due("the trace stays", x.trace(1), 10);
        Due.due("how many ran stays", x.status(7), 2);
        Due.due("rows stay", x.element(0, 0), 'y');
    }

    private static void shelvesOfTheImage() {
        MountainsInMourning x = new MountainsInMourning();
        x.peak(0, 0, 0, 10);
        x.peak(0, 0, 1, 10);
        x.image();
        x.peak(0, 0, 2, 10);
        x.show(0, 2);
        x.show(1, 1);
        x.show(7, 2);
        x.row(2, 3, 4);
        Due.due("restore", x.restore(), 2);
        Due.due("a peak of the image", x.holds(1), 1);
        Due.due("one that isn't there", x.holds(0), -1);
        Due.due("one that isn't there", x.holds(7), -1);
        Due.due("a row", x.holds(2), 103);
        Due.due("nothing", x.holds(3), -1);
        Due.due("it says its height", x.says(1, 0), 10);
    }

    private static void status() {
        MountainsInMourning x = ofAllKinds();
        x.screen(1, 1);
        x.valley(1);
        x.valley(1);
        x.years(12);
        x.take(0);
        x.seed(-5);
        x.act(1, 1, 1);
        int[] due = {7, 6, 1, 2, 12, 1, -5, 3};
        for (int what = 0; what < due.length; what++) {
            Due.due("status(" + what + ")", x.status(what), due[what]);
        }
        int[] none = {-1, 8, 9, 10, 18, 19, Integer.MAX_VALUE, Integer.MIN_VALUE};
        for (int what : none) {
            Due.due("status(" + what + ")", x.status(what), -1);
        }
        Due.refused(x, 0, 0, 0, 0, 0, 0, 0);
        x.row(9, 0, 0);
        x.show(0, 0);
        x.set(0, 0, 0);
        x.set(1, 0, 0);
        x.row(0, 0, -1);
        x.peakOf(0, 9);
        x.years(0);
        x.row(0, 0, 161);
        Due.refused(x, 1, 1, 1, 1, 1, 1, 1);
        x.since(0, 9);
        x.cost(9);
        x.chain(0, 0);
        x.judge(0, 0);
        x.judge(2, 0);
        Due.refused(x, 3, 2, 2, 1, 1, 2, 1);
    }

    private static void constant() {
        Due.due("NONE", MountainsInMourning.NONE, -1);
    }
}

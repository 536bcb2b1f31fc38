/** Promises 1 to 8: a new object, and what shelves hold and say. */
public final class ShelfTest {
    public static void main(String[] args) {
        newObject();
        row();
        set();
        copy();
        copyRefusals();
        element();
        showAndHolds();
        says();
        saysBlack();
        saysRefusals();
        Due.end();
    }

    private static void newObject() {
        MountainsInMourning x = new MountainsInMourning();
        for (int what = 0; what <= 7; what++) {
            Due.due("status(" + what + ") of a new object", x.status(what), what == 6 ? 1 : 0);
        }
        for (int s = -1; s <= 8; s++) {
            Due.due("holds(" + s + ") of a new object", x.holds(s), -1);
        }
        Due.due("fault() of a new object", x.fault(), -1);
        Due.due("trace(0) of a new object", x.trace(0), -1);
        Due.due("restore() of a new object", x.restore(), -6);
        Due.refused(x, 0, 0, 0, 0, 0, 1, 0);
    }

    private static void row() {
        MountainsInMourning x = new MountainsInMourning();
        Due.due("row of no shelf", x.row(8, 4, -1), -1);
        Due.due("row of no shelf", x.row(-1, 0, 1), -1);
        Due.due("row below 0 elements", x.row(0, 4, -1), -4);
        Due.due("row of no sort", x.row(0, 4, 161), -6);
        Due.due("row of no sort", x.row(0, -1, 1), -6);
        Due.due("row beyond 160 elements", x.row(0, 0, 161), -7);
        Due.due("row beyond 160 elements", x.row(0, 0, Integer.MAX_VALUE), -7);
        Due.due("holds of what was refused", x.holds(0), -1);
        Due.refused(x, 2, 0, 0, 1, 0, 2, 2);
        Due.due("row", x.row(0, 0, 160), 1);
        Due.due("the last element", x.set(0, 159, 7), 1);
        Due.due("row of the same shelf", x.row(0, 1, 160), 1);
        Due.due("holds", x.holds(0), 101);
        Due.due("a new row is 0", x.element(0, 159), 0);
        Due.due("an empty row", x.row(7, 3, 0), 1);
        Due.due("holds", x.holds(7), 103);
        x.peak(0, 0, 0, 1);
        x.show(2, 0);
        Due.due("row where a peak was", x.row(2, 2, 1), 1);
        Due.due("holds", x.holds(2), 102);
    }

    private static void set() {
        MountainsInMourning x = new MountainsInMourning();
        x.peak(0, 0, 0, 1);
        x.show(1, 0);
        Due.due("set in no shelf", x.set(8, 0, 1), -1);
        Due.due("set in no shelf", x.set(-1, 0, 1), -1);
        Due.due("set in a peak", x.set(1, -1, 1), -2);
        Due.due("set in nothing", x.set(0, -1, 1), -3);
        long v = 0x123456789ABCDEF0L;
        long[] kept = {(byte) v, (short) v, (int) v, v};
        for (int sort = 0; sort <= 3; sort++) {
            x.row(0, sort, 3);
            Due.due("set", x.set(0, 2, v), 1);
            Due.due("the lowest bits of sort " + sort, x.element(0, 2), kept[sort]);
            Due.due("set", x.set(0, 0, -1), 1);
            Due.due("below 0 of sort " + sort, x.element(0, 0), -1);
            Due.due("the one between", x.element(0, 1), 0);
            Due.due("set behind the end", x.set(0, 3, 1), -5);
            Due.due("set ahead of the first", x.set(0, -1, 1), -5);
        }
        x.row(0, 0, 1);
        x.set(0, 0, 200);
        Due.due("a byte above 127", x.element(0, 0), -56);
        Due.refused(x, 2, 1, 1, 0, 8, 0, 0);
    }

    private static void copy() {
        MountainsInMourning x = new MountainsInMourning();
        Due.numbers(x, 0, 2, 1, 2, 3, 4, 5);
        Due.numbers(x, 1, 2, 9, 9, 9);
        Due.due("copy", x.copy(0, 1, 3, 1, 2), 1);
        row(x, 1, 9, 4, 5);
        Due.due("copy up within one row", x.copy(0, 0, 0, 1, 4), 1);
        row(x, 0, 1, 1, 2, 3, 4);
        Due.due("copy down within one row", x.copy(0, 0, 2, 0, 3), 1);
        row(x, 0, 2, 3, 4, 3, 4);
        Due.due("copy of none at the ends", x.copy(0, 1, 5, 3, 0), 1);
        row(x, 1, 9, 4, 5);
        Due.due("rows are not shared", x.set(0, 4, 77), 1);
        row(x, 1, 9, 4, 5);
    }

    private static void row(MountainsInMourning x, int s, long... due) {
        for (int i = 0; i < due.length; i++) {
            Due.due("element " + i, x.element(s, i), due[i]);
        }
    }

    private static void copyRefusals() {
        MountainsInMourning x = new MountainsInMourning();
        x.peak(0, 0, 0, 1);
        Due.numbers(x, 0, 2, 1, 2, 3);
        Due.numbers(x, 1, 3, 1, 2, 3);
        Due.numbers(x, 5, 2, 1, 2);
        x.show(2, 0);
        Due.due("copy from no shelf", x.copy(8, 2, 0, 0, 1), -1);
        Due.due("copy to no shelf", x.copy(2, -1, 0, 0, 1), -1);
        Due.due("copy from a peak to nothing", x.copy(2, 3, 0, 0, -1), -2);
        Due.due("copy from nothing to a peak", x.copy(3, 2, 0, 0, -1), -2);
        Due.due("copy from a peak to itself", x.copy(2, 2, 0, 0, -1), -2);
        Due.due("copy of two sorts", x.copy(0, 1, -1, 0, -1), -2);
        Due.due("copy from nothing", x.copy(3, 0, 0, 0, -1), -3);
        Due.due("copy to nothing", x.copy(0, 3, 0, 0, -1), -3);
        Due.due("copy from nothing to nothing", x.copy(3, 3, 0, 0, -1), -3);
        Due.due("copy of fewer than none", x.copy(0, 5, -1, 0, -1), -4);
        Due.due("copy from below 0", x.copy(0, 5, -1, 0, 1), -5);
        Due.due("copy to below 0", x.copy(0, 5, 0, -1, 1), -5);
        Due.due("copy from beyond the end", x.copy(0, 5, 2, 0, 2), -5);
        Due.due("copy to beyond the end", x.copy(0, 5, 0, 1, 2), -5);
        Due.due("copy of far too many", x.copy(0, 5, 1, 1, Integer.MAX_VALUE), -5);
        Due.due("copy of none behind the end", x.copy(0, 5, 4, 0, 0), -5);
        Due.due("copy of none from afar", x.copy(0, 5, Integer.MAX_VALUE, 0, 0), -5);
        Due.refused(x, 2, 4, 3, 1, 7, 0, 0);
    }

    private static void element() {
        MountainsInMourning x = new MountainsInMourning();
        x.peak(0, 0, 0, 1);
        x.show(1, 0);
        Due.numbers(x, 0, 3, Long.MIN_VALUE, 5);
        Due.due("element", x.element(0, 0), Long.MIN_VALUE);
        Due.due("element", x.element(0, 1), 5);
        Due.due("no such element", x.element(0, 2), 0);
        Due.due("no such element", x.element(0, -1), 0);
        Due.due("element of a peak", x.element(1, 0), 0);
        Due.due("element of nothing", x.element(2, 0), 0);
        Due.due("element of no shelf", x.element(8, 0), 0);
        Due.due("element of no shelf", x.element(-1, 0), 0);
        Due.refused(x, 0, 0, 0, 0, 0, 0, 0);
    }

    private static void showAndHolds() {
        MountainsInMourning x = new MountainsInMourning();
        Due.due("show no peak", x.show(0, 0), -1);
        x.peak(0, 0, 0, 1);
        x.peak(0, 0, 1, 1);
        Due.due("show in no shelf", x.show(8, 0), -1);
        Due.due("show in no shelf", x.show(-1, -1), -1);
        Due.due("show no peak", x.show(0, 2), -1);
        Due.due("show no peak", x.show(0, -2), -1);
        Due.refused(x, 5, 0, 0, 0, 0, 0, 0);
        Due.due("show", x.show(0, 1), 1);
        Due.due("holds", x.holds(0), 1);
        x.take(0);
        Due.due("show a lost one", x.show(7, 0), 1);
        Due.due("holds a lost one", x.holds(7), 0);
        Due.due("a refused show leaves it", x.show(0, 5), -1);
        Due.due("holds", x.holds(0), 1);
        Due.due("show nothing", x.show(0, -1), 0);
        Due.due("holds", x.holds(0), -1);
        for (int sort = 0; sort <= 3; sort++) {
            x.row(3, sort, 1);
            Due.due("holds a row", x.holds(3), 100 + sort);
        }
        Due.due("show nothing in place of a row", x.show(3, -1), 0);
        Due.due("holds", x.holds(3), -1);
        Due.due("holds of no shelf", x.holds(8), -1);
        Due.due("holds of no shelf", x.holds(-1), -1);
    }

    private static void says() {
        MountainsInMourning x = new MountainsInMourning();
        for (int kind = 0; kind <= 6; kind++) {
            x.peak(kind, 3, 10 * kind, 100 + kind);
            x.show(kind, kind);
        }
        int[][] due = {
            {100, -2, -2, -2, -2, -2, -2},
            {101, 0, -2, -2, -2, -2, -2},
            {102, -2, 50, -2, -2, -2, -2},
            {103, 0, -2, 0, -2, -2, -2},
            {104, -2, -2, -2, 40, -2, -2},
            {105, -2, 3, -2, -2, 3, -2},
            {106, -2, -2, -2, 40, -2, 200}};
        for (int kind = 0; kind <= 6; kind++) {
            for (int as = 0; as <= 6; as++) {
                Due.due("kind " + kind + " says, taken for " + as, x.says(kind, as), due[kind][as]);
            }
        }
    }

    private static void saysBlack() {
        MountainsInMourning x = new MountainsInMourning();
        x.peak(0, 0, 0, 10);
        x.peak(1, 0, 10, 10);
        x.peak(3, 0, 20, 10);
        x.show(1, 1);
        x.show(2, 2);
        x.years(5);
        x.take(0);
        Due.due("a polite one in mourning", x.says(1, 1), 1);
        Due.due("a courtly one that sees it", x.says(2, 3), 1);
        Due.due("a courtly one taken for a polite one", x.says(2, 1), 1);
        x.years(5);
        Due.due("a polite one behind it", x.says(1, 1), 0);
        Due.due("a courtly one behind it", x.says(2, 3), 0);
        x.show(0, 0);
        Due.due("a lost one says its height", x.says(0, 0), 10);
        x.take(1);
        Due.due("a lost polite one", x.says(1, 1), 0);
    }

    private static void saysRefusals() {
        MountainsInMourning x = new MountainsInMourning();
        x.row(0, 0, 1);
        Due.due("no shelf", x.says(8, 0), -1);
        Due.due("no shelf", x.says(-1, 0), -1);
        Due.due("no kind", x.says(0, 7), -1);
        Due.due("no kind", x.says(1, -1), -1);
        Due.due("a row", x.says(0, 0), -2);
        Due.due("nothing", x.says(1, 0), -3);
        Due.refused(x, 4, 1, 1, 0, 0, 0, 0);
    }
}

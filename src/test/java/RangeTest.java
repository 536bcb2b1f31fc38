/** Promises 9 to 16: peaks, screens, valleys, and ranges read from texts. */
public final class RangeTest {
    public static void main(String[] args) {
        peak();
        screen();
        valley();
        under();
        peakOf();
        sight();
        farSight();
        screensInSight();
        valleyOf();
        rangeOfAll();
        rangeRefusals();
        faultsOfLetters();
        faultsOfNumbers();
        faultsOfRoom();
        allOrNothing();
        Due.end();
    }

    private static void peak() {
        MountainsInMourning x = new MountainsInMourning();
        Due.due("no kind", x.peak(7, -1, -1, -1), -1);
        Due.due("no kind", x.peak(-1, 0, 0, 1), -1);
        Due.due("a below", x.peak(0, -1, 0, 1), -6);
        Due.due("a above", x.peak(0, 10, 0, 1), -6);
        Due.due("place below", x.peak(0, 0, -1, 1), -6);
        Due.due("place above", x.peak(0, 0, 100, 1), -6);
        Due.due("height below", x.peak(0, 0, 0, 0), -6);
        Due.due("height above", x.peak(0, 0, 0, 1000), -6);
        Due.due("peaks that were refused", x.status(0), 0);
        Due.due("peak", x.peak(0, 0, 0, 1), 0);
        Due.due("peak", x.peak(6, 9, 99, 999), 1);
        Due.due("a place that has a peak", x.peak(0, 0, 99, 1), -6);
        x.take(0);
        Due.due("a place that has a lost peak", x.peak(0, 0, 0, 1), -6);
        for (int p = 2; p < 10; p++) {
            Due.due("peak", x.peak(p % 7, 0, p, 5), p);
        }
        Due.due("no kind ahead of no room", x.peak(7, 0, 50, 1), -1);
        Due.due("a wrong number ahead of no room", x.peak(0, 0, 99, 1), -6);
        Due.due("no room, lost ones counted", x.peak(0, 0, 50, 1), -7);
        Due.due("peaks", x.status(0), 10);
        Due.refused(x, 3, 0, 0, 0, 0, 9, 1);
    }

    private static void screen() {
        MountainsInMourning x = new MountainsInMourning();
        Due.due("place below", x.screen(-1, 1), -6);
        Due.due("place above", x.screen(100, 1), -6);
        Due.due("height below", x.screen(0, 0), -6);
        Due.due("height above", x.screen(0, 1000), -6);
        x.peak(0, 0, 50, 1);
        for (int i = 0; i < 6; i++) {
            Due.due("screen, also where a peak or another screen is", x.screen(50, 999), i);
        }
        Due.due("a wrong number ahead of no room", x.screen(0, 0), -6);
        Due.due("no room", x.screen(0, 1), -7);
        Due.due("screens", x.status(2), 6);
        Due.refused(x, 0, 0, 0, 0, 0, 5, 1);
    }

    private static void valley() {
        MountainsInMourning x = new MountainsInMourning();
        Due.due("milk below", x.valley(-1), -6);
        Due.due("milk above", x.valley(1000), -6);
        for (int i = 0; i < 8; i++) {
            Due.due("valley", x.valley(i == 0 ? 0 : 999), i);
        }
        Due.due("a wrong number ahead of no room", x.valley(1000), -6);
        Due.due("no room", x.valley(0), -7);
        Due.due("valleys", x.status(3), 8);
        Due.due("nothing under a new valley", x.valleyOf(7, 1), 0);
        Due.refused(x, 0, 0, 0, 0, 0, 3, 1);
    }

    private static void under() {
        MountainsInMourning x = new MountainsInMourning();
        x.valley(5);
        x.peak(0, 0, 0, 1);
        x.peak(0, 0, 1, 1);
        Due.due("no valley", x.under(1, 0, true), -1);
        Due.due("no valley", x.under(-1, 0, true), -1);
        Due.due("no peak", x.under(0, 2, true), -1);
        Due.due("no peak", x.under(0, -1, true), -1);
        Due.due("it wasn't", x.under(0, 1, false), 0);
        Due.due("it wasn't", x.under(0, 1, true), 0);
        Due.due("it was", x.under(0, 1, true), 1);
        Due.due("under", x.valleyOf(0, 1), 2);
        x.take(0);
        Due.due("a lost one", x.under(0, 0, true), 0);
        Due.due("under", x.valleyOf(0, 1), 3);
        Due.due("it was", x.under(0, 1, false), 1);
        Due.due("under", x.valleyOf(0, 1), 1);
        Due.refused(x, 4, 0, 0, 0, 0, 0, 0);
    }

    private static void peakOf() {
        MountainsInMourning x = new MountainsInMourning();
        Due.due("no peak", x.peakOf(0, 0), -5);
        x.peak(5, 7, 13, 420);
        x.peak(0, 0, 20, 30);
        x.years(40);
        int[] due = {5, 7, 13, 420, 1, 0, 2};
        for (int what = 0; what < 7; what++) {
            Due.due("peakOf " + what, x.peakOf(0, what), due[what]);
        }
        x.take(1);
        Due.due("UNTIL: half of 40, but 7 at most", x.peakOf(0, 5), 47);
        Due.due("whom it sees", x.peakOf(0, 6), 0);
        Due.due("a lost one doesn't stand", x.peakOf(1, 4), 0);
        Due.due("a lost one sees none", x.peakOf(1, 6), 0);
        Due.due("a lost one keeps its height", x.peakOf(1, 3), 30);
        Due.due("another what", x.peakOf(0, 7), -5);
        Due.due("another what", x.peakOf(0, -1), -5);
        Due.due("no peak", x.peakOf(2, 0), -5);
        Due.due("no peak", x.peakOf(-1, 0), -5);
        Due.refused(x, 0, 0, 0, 0, 5, 0, 0);
    }

    private static void sight() {
        MountainsInMourning x = new MountainsInMourning();
        x.peak(0, 0, 10, 100);
        x.peak(0, 0, 40, 101);
        Due.due("two alone", x.peakOf(0, 6), 2);
        Due.due("two alone", x.peakOf(1, 6), 1);
        x.peak(0, 0, 25, 100);
        Due.due("one just below the line, 100.5 there", x.peakOf(0, 6), 6);
        x.peak(0, 0, 20, 101);
        Due.due("one above the line", x.peakOf(0, 6), 8);
        Due.due("the second sees the last alone", x.peakOf(1, 6), 12);
        x.take(3);
        Due.due("the line is free again", x.peakOf(0, 6), 6);
        MountainsInMourning y = new MountainsInMourning();
        y.peak(0, 0, 0, 10);
        y.peak(0, 0, 50, 10);
        y.peak(0, 0, 99, 10);
        Due.due("on the line isn't below it", y.peakOf(0, 6), 2);
        Due.due("the middle sees both", y.peakOf(1, 6), 5);
        Due.due("on the line isn't below it", y.peakOf(2, 6), 2);
    }

    private static void farSight() {
        MountainsInMourning x = new MountainsInMourning();
        x.peak(4, 0, 0, 100);
        x.peak(6, 1, 99, 100);
        x.peak(0, 0, 10, 50);
        x.peak(0, 0, 11, 40);
        x.peak(0, 0, 79, 50);
        x.peak(0, 0, 78, 40);
        Due.due("10 apart at most", x.peakOf(0, 6), 4);
        Due.due("20 apart at most", x.peakOf(1, 6), 16);
        Due.due("it is seen from farther", x.peakOf(4, 6) & 3, 3);
        Due.due("it doesn't see what is 21 apart", x.since(1, 5), -1);
        Due.due("nor what is 11 apart", x.since(0, 3), -1);
    }

    private static void screensInSight() {
        MountainsInMourning x = new MountainsInMourning();
        x.peak(0, 0, 10, 100);
        x.peak(0, 0, 20, 50);
        x.screen(10, 999);
        x.screen(20, 999);
        x.screen(9, 999);
        x.screen(21, 999);
        Due.due("screens at and behind them", x.peakOf(0, 6), 2);
        x.screen(12, 89);
        Due.due("a screen below the line", x.peakOf(0, 6), 2);
        x.screen(12, 90);
        Due.due("a screen that reaches it", x.peakOf(0, 6), 0);
        Due.due("from the other side", x.peakOf(1, 6), 0);
        x.peak(0, 0, 11, 200);
        Due.due("a new one looks around", x.peakOf(2, 6), 3);
    }

    private static void valleyOf() {
        MountainsInMourning x = new MountainsInMourning();
        Due.due("no valley", x.valleyOf(0, 0), -5);
        x.valley(30);
        x.peak(0, 0, 0, 1);
        x.peak(0, 0, 1, 1);
        x.under(0, 1, true);
        x.years(3);
        Due.due("milk", x.valleyOf(0, 0), 30);
        Due.due("under", x.valleyOf(0, 1), 2);
        Due.due("milk this year", x.valleyOf(0, 2), 30);
        x.take(0);
        Due.due("milk", x.valleyOf(0, 0), 30);
        Due.due("milk this year", x.valleyOf(0, 2), 0);
        x.years(2);
        Due.due("milk in the last year of mourning", x.valleyOf(0, 2), 0);
        x.years(1);
        Due.due("milk behind it", x.valleyOf(0, 2), 30);
        Due.due("another what", x.valleyOf(0, 3), -5);
        Due.due("another what", x.valleyOf(0, -1), -5);
        Due.due("no valley", x.valleyOf(1, 0), -5);
        Due.due("no valley", x.valleyOf(-1, 0), -5);
        Due.refused(x, 0, 0, 0, 0, 5, 0, 0);
    }

    private static void rangeOfAll() {
        MountainsInMourning x = new MountainsInMourning();
        x.peak(0, 0, 0, 10);
        x.years(7);
        Due.letters(x, 0, 0, "peak 2 03 050 010;screen 25 5;years 20;valley 007;under 0 1;under 0 0;take 0;years 999");
        Due.due("range", x.range(0), 8);
        Due.due("fault", x.fault(), -1);
        Due.due("the new peak", x.peakOf(1, 2), 50);
        Due.due("since when it saw the old one: half of 20 years", x.peakOf(1, 5), 7 + 20 + 10);
        Due.due("the taken one", x.peakOf(0, 4), 0);
        Due.due("the valley", x.valleyOf(0, 0), 7);
        Due.due("under it", x.valleyOf(0, 1), 3);
        Due.due("the screen", x.status(2), 1);
        Due.due("the year", x.status(4), 7 + 20 + 999);
        for (int sort = 1; sort <= 3; sort++) {
            Due.letters(x, 1, sort, "valley 1");
            Due.due("range of sort " + sort, x.range(1), 1);
        }
        x.set(1, 7, (1L << 32) + '2');
        Due.due("longs count by their lowest bits", x.range(1), 1);
        Due.due("the last valley", x.valleyOf(4, 0), 2);
    }

    private static void rangeRefusals() {
        MountainsInMourning x = new MountainsInMourning();
        x.peak(0, 0, 0, 1);
        x.show(0, 0);
        Due.letters(x, 1, 0, "years 0");
        Due.due("a fault", x.range(1), -6);
        Due.due("fault", x.fault(), 6);
        Due.due("no shelf", x.range(8), -1);
        Due.due("no shelf", x.range(-1), -1);
        Due.due("a peak", x.range(0), -2);
        Due.due("nothing", x.range(2), -3);
        Due.due("fault of the latest that came to a row", x.fault(), 6);
        x.set(1, 6, '1');
        Due.due("no fault any more", x.range(1), 1);
        Due.due("fault", x.fault(), -1);
        Due.refused(x, 2, 1, 1, 0, 0, 1, 0);
    }

    private static void fault(MountainsInMourning x, String text, int due) {
        Due.letters(x, 0, 2, text);
        int year = x.status(4);
        int range = x.range(0);
        if (due == MountainsInMourning.NONE) {
            Due.that("range of \"" + text + "\"", range > 0);
        } else {
            Due.due("range of \"" + text + "\"", range, -6);
            Due.due("the year behind \"" + text + "\"", x.status(4), year);
        }
        Due.due("fault of \"" + text + "\"", x.fault(), due);
    }

    private static void faultsOfLetters() {
        MountainsInMourning x = new MountainsInMourning();
        x.peak(0, 0, 0, 1);
        fault(x, "", 0);
        fault(x, "x", 0);
        fault(x, " years 1", 0);
        fault(x, ";", 0);
        fault(x, "yea", 3);
        fault(x, "yexrs", 2);
        fault(x, "Years 1", 0);
        fault(x, "years", 5);
        fault(x, "years;", 5);
        fault(x, "years ", 6);
        fault(x, "years  1", 6);
        fault(x, "years x", 6);
        fault(x, "years 1;", 8);
        fault(x, "years 1;;", 8);
        fault(x, "years 1; years 1", 8);
        fault(x, "years 1 ", 7);
        fault(x, "years 1 1", 7);
        fault(x, "years 1x", 7);
        fault(x, "years -1", 6);
        fault(x, "under", 5);
        fault(x, "peak 0 0 50", 11);
        fault(x, "peak 0 0 50;", 11);
        fault(x, "screen 1 1 1", 10);
        fault(x, "years 1;take", 12);
    }

    private static void faultsOfNumbers() {
        MountainsInMourning x = new MountainsInMourning();
        x.peak(0, 0, 0, 1);
        x.peak(0, 0, 9, 1);
        x.take(0);
        fault(x, "years 0", 6);
        fault(x, "years 00", 6);
        fault(x, "years 000", 6);
        fault(x, "years 0000", 6);
        fault(x, "years 001", -1);
        fault(x, "years 0010", 9);
        fault(x, "years 9999", 9);
        fault(x, "peak 7 0 1 1", 5);
        fault(x, "peak 7", 5);
        fault(x, "peak 0 10 1 1", 7);
        fault(x, "peak 0 0 100 1", 9);
        fault(x, "peak 0 0 1000 1", 9);
        fault(x, "peak 0 0 9 1", 9);
        fault(x, "peak 0 0 000 1", 9);
        fault(x, "peak 0 0 2 0", 11);
        fault(x, "peak 0 0 2 1;peak 0 0 2 1", 22);
        fault(x, "screen 100 1", 7);
        fault(x, "screen 99 0", 10);
        fault(x, "valley 1000", 10);
        fault(x, "valley 999", -1);
        fault(x, "years 999;screen 99 999;peak 6 9 99 999", -1);
        fault(x, "under 1 1", 6);
        fault(x, "valley 0;under 2 1", 15);
        fault(x, "valley 0;under 1 3", 17);
        fault(x, "valley 0;under 1 0", -1);
        fault(x, "take 0", 5);
        fault(x, "take 3", 5);
        fault(x, "take 1;take 1", 12);
        fault(x, "peak 0 0 50 1;take 3;peak 0 0 50 1", 30);
        MountainsInMourning y = new MountainsInMourning();
        fault(y, "under 0 1", 6);
        fault(y, "take 0", 5);
    }

    private static void faultsOfRoom() {
        MountainsInMourning x = new MountainsInMourning();
        for (int p = 0; p < 9; p++) {
            x.peak(0, 0, p, 1);
        }
        fault(x, "peak 0 0 50 1;peak 0 0 51 1", 14);
        fault(x, "peak 0 0 50 1;peakx", 14);
        fault(x, "peak 0 0 50 1;peak", 14);
        fault(x, "peak 0 0 50 1;pea", 17);
        fault(x, "peak 0 0 50 1;peax", 17);
        fault(x, "peak 0 0 50 1", -1);
        fault(x, "peak 9 9 50 1", 0);
        for (int i = 0; i < 6; i++) {
            x.screen(0, 1);
        }
        for (int i = 0; i < 8; i++) {
            x.valley(0);
        }
        fault(x, "screen 1 1", 0);
        fault(x, "scree 1 1", 5);
        fault(x, "valley 1", 0);
        fault(x, "valle", 5);
        fault(x, "years 1;valley", 8);
        fault(x, "years 1;vall", 12);
        fault(x, "under 7 9;years 1;take 0", -1);
    }

    private static void allOrNothing() {
        MountainsInMourning x = new MountainsInMourning();
        x.peak(0, 0, 0, 9);
        x.peak(0, 0, 10, 9);
        x.valley(1);
        x.seed(5);
        Due.letters(x, 0, 0, "years 9;peak 0 0 5 99;screen 1 1;valley 3;under 0 0;take 1;oh");
        Due.due("range", x.range(0), -6);
        Due.due("fault", x.fault(), 59);
        int[] due = {2, 2, 0, 1, 0, 0, 5};
        for (int what = 0; what < due.length; what++) {
            Due.due("status(" + what + ") behind a fault", x.status(what), due[what]);
        }
        Due.due("sight behind a fault", x.peakOf(0, 6), 2);
        Due.due("under behind a fault", x.valleyOf(0, 1), 0);
        Due.due("until behind a fault", x.peakOf(0, 5), 0);
    }
}

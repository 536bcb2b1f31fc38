/** Promises 22 to 28: grief, least, order, cost, screens that hide, told years that fit. */
public final class GriefTest {
    public static void main(String[] args) {
        grief();
        griefChangesNothing();
        least();
        order();
        orderRefusals();
        orderOfMoreThanStand();
        cost();
        screened();
        hide();
        hideNowhere();
        fits();
        Due.end();
    }

    private static void grief() {
        MountainsInMourning x = Due.inARow(6, 0, 2, 0);
        x.years(12);
        Due.due("of one that an old and a young one see", x.grief(1), 24 + 6);
        Due.due("of one at the end", x.grief(0), 12);
        x.take(1);
        Due.due("what is in mourning already grows by less", x.grief(3), 6 - 6);
        x.years(20);
        Due.due("each year now at least", x.grief(3), 16);
        Due.due("the lost one", x.grief(1), -6);
        Due.due("no peak", x.grief(4), -1);
        Due.due("no peak", x.grief(-1), -1);
        Due.refused(x, 2, 0, 0, 0, 0, 1, 0);
    }

    private static void griefChangesNothing() {
        MountainsInMourning x = Due.inARow(0, 0);
        x.years(5);
        x.grief(0);
        x.cost(0);
        x.order(2, -1);
        x.spared(0, 0);
        Due.due("it stands", x.peakOf(0, 4), 1);
        Due.due("none mourns it", x.peakOf(1, 5), 0);
        Due.due("it is seen", x.peakOf(1, 6), 1);
        Due.due("the year", x.status(4), 5);
    }

    private static void least() {
        MountainsInMourning x = new MountainsInMourning();
        Due.due("none stands", x.least(), -1);
        x.peak(0, 0, 0, 10);
        x.peak(0, 0, 10, 10);
        x.peak(0, 0, 20, 10);
        x.years(3);
        Due.due("of several the first", x.least(), 0);
        x.take(0);
        Due.due("3 has grief 0, for the one in mourning mourns 3 years already", x.least(), 2);
        x.take(2);
        Due.due("the last", x.least(), 1);
        x.take(1);
        Due.due("none stands", x.least(), -1);
    }

    private static void order() {
        MountainsInMourning x = Due.inARow(6, 0, 5, 6);
        x.years(20);
        Due.due("grief of 0", x.grief(0), 20);
        Due.due("grief of 1", x.grief(1), 40 + 9);
        Due.due("grief of 2", x.grief(2), 20 + 40);
        Due.due("grief of 3", x.grief(3), 9);
        Due.due("least of one", x.order(1, -1), 9);
        Due.due("least of one", x.order(1, 0), 3);
        Due.due("least of two: 0, that 1 mourns; then 1, that the spring mourns", x.order(2, -1), 20 + 9);
        Due.due("the first of them", x.order(2, 0), 0);
        Due.due("the second (0 and 3 would be 29 too, but later by numbers)", x.order(2, 1), 1);
        Due.due("least of three: 0, 1, 3, that the spring mourns no longer than 1", x.order(3, -1), 20 + 9);
        Due.due("the first", x.order(3, 0), 0);
        Due.due("the second", x.order(3, 1), 1);
        Due.due("the third", x.order(3, 2), 3);
        Due.due("nothing is lost", x.status(1), 4);
        MountainsInMourning y = Due.inARow(0, 0, 0);
        Due.due("of equal ones the first", y.order(3, 0), 0);
        Due.due("of equal ones the first", y.order(3, 1), 1);
        Due.due("of equal ones the first", y.order(3, 2), 2);
        Due.due("no grief in the first year", y.order(3, -1), 0);
    }

    private static void orderRefusals() {
        MountainsInMourning x = Due.inARow(0, 0, 0);
        Due.due("no k", x.order(0, 0), -6);
        Due.due("no k", x.order(4, -1), -6);
        Due.due("no k, so no look at i", x.order(4, 7), -6);
        Due.due("no k, so no look at i", x.order(0, -2), -6);
        Due.due("no i", x.order(2, 2), -5);
        Due.due("no i", x.order(2, -2), -5);
        x.take(0);
        Due.due("fewer that stand", x.order(3, 0), -6);
        Due.due("as many as stand", x.order(2, 0), 1);
        Due.due("fewer that stand, so no look at i", x.order(3, 3), -6);
        Due.refused(x, 0, 0, 0, 0, 2, 6, 0);
    }

    private static void orderOfMoreThanStand() {
        MountainsInMourning x = Due.inARow(0, 0, 0);
        int refusals = 0;
        for (int stand = 3; stand >= 0; stand--) {
            for (int k = stand + 1; k <= 3; k++) {
                for (int i = -3; i <= 4; i++) {
                    refusals++;
                    Due.due(stand + " stand, order " + k + " " + i, x.order(k, i), -6);
                    Due.refused(x, 0, 0, 0, 0, 0, refusals, 0);
                }
                refusals += 2;
                Due.due(stand + " stand, order " + k + ", smallest i", x.order(k, Integer.MIN_VALUE), -6);
                Due.due(stand + " stand, order " + k + ", greatest i", x.order(k, Integer.MAX_VALUE), -6);
            }
            if (stand > 0) {
                x.take(stand - 1);
            }
        }
        Due.refused(x, 0, 0, 0, 0, 0, refusals, 0);
        MountainsInMourning y = Due.inARow(0, 0, 0);
        for (int k = 1; k <= 3; k++) {
            Due.due("as many as stand, i too small, order " + k, y.order(k, -2), -5);
            Due.due("as many as stand, i too large, order " + k, y.order(k, k), -5);
            Due.due("as many as stand, i fits, order " + k, y.order(k, k - 1), k - 1);
        }
        Due.refused(y, 0, 0, 0, 0, 6, 0, 0);
    }

    private static void cost() {
        MountainsInMourning x = Due.inARow(0, 0, 0);
        x.valley(10);
        x.under(0, 0, true);
        x.valley(1);
        x.under(1, 1, true);
        x.years(30);
        Due.due("30 years without milk", x.cost(1), 300);
        Due.due("30 years without milk", x.cost(0), 30);
        x.take(1);
        x.years(10);
        Due.due("no milk for 20 years more, but that it is lost", x.cost(0), -200);
        Due.due("10 years more of mourning aren't 20", x.cost(2), 0);
        Due.due("a lost one", x.cost(1), -1000006);
        Due.due("no peak", x.cost(3), -1000001);
        Due.due("no peak", x.cost(-1), -1000001);
        Due.refused(x, 2, 0, 0, 0, 0, 1, 0);
        MountainsInMourning y = Due.inARow(0, 0, 6);
        y.valley(1);
        y.under(0, 2, true);
        y.years(400);
        Due.due("100 years and no more", y.cost(1), 100);
    }

    private static void screened() {
        MountainsInMourning x = new MountainsInMourning();
        x.peak(0, 0, 10, 100);
        x.peak(0, 0, 40, 101);
        x.peak(4, 0, 60, 1);
        Due.due("the line is at 100 and a third", x.screened(0, 1, 20), 101);
        Due.due("from the other side", x.screened(1, 0, 20), 101);
        Due.due("beside the first", x.screened(0, 1, 11), 101);
        Due.due("at the first", x.screened(0, 1, 10), -1);
        Due.due("at the second", x.screened(0, 1, 40), -1);
        Due.due("beyond", x.screened(0, 1, 99), -1);
        Due.due("no place", x.screened(0, 1, 100), -16);
        Due.due("no place", x.screened(0, 1, -1), -16);
        Due.due("too far to see it", x.screened(2, 1, 50), -16);
        Due.due("but it is seen", x.screened(1, 2, 50), 51);
        Due.due("itself", x.screened(0, 0, 10), -16);
        Due.due("no peak", x.screened(3, 0, -1), -11);
        Due.due("no other", x.screened(0, -1, -1), -11);
        Due.refused(x, 2, 0, 0, 0, 0, 4, 0);
        Due.due("a screen that is a bit too low", x.screen(20, 100), 0);
        Due.due("it sees it", x.since(0, 1), 0);
        x.screen(20, 101);
        Due.due("the told one hides it", x.since(0, 1), -1);
        Due.due("it doesn't see it now", x.screened(0, 1, 20), -16);
        MountainsInMourning y = new MountainsInMourning();
        y.peak(0, 0, 0, 999);
        y.peak(0, 0, 99, 999);
        Due.due("the highest", y.screened(0, 1, 1), 999);
        MountainsInMourning z = new MountainsInMourning();
        z.peak(0, 0, 0, 1);
        z.peak(0, 0, 99, 1);
        Due.due("the lowest", z.screened(0, 1, 98), 1);
    }

    private static void hide() {
        MountainsInMourning x = new MountainsInMourning();
        x.peak(0, 0, 10, 100);
        x.peak(0, 0, 20, 50);
        x.peak(0, 0, 19, 20);
        x.peak(0, 0, 18, 20);
        Due.due("19 has a peak, 18 too", x.hide(0, 1), 17);
        Due.due("from the other side", x.hide(1, 0), 17);
        x.take(2);
        Due.due("where a lost one was", x.hide(0, 1), 19);
        MountainsInMourning y = new MountainsInMourning();
        y.peak(0, 0, 30, 50);
        y.peak(0, 0, 60, 50);
        Due.due("of several the first", y.hide(0, 1), 31);
        Due.due("of several the first", y.hide(1, 0), 31);
        MountainsInMourning z = new MountainsInMourning();
        z.peak(0, 0, 31, 5);
        z.peak(0, 0, 30, 50);
        z.peak(0, 0, 60, 50);
        Due.due("31 has the first of all peaks", z.hide(1, 2), 32);
        Due.due("no peak", y.hide(2, 0), -11);
        Due.due("no other", y.hide(0, -1), -11);
        Due.due("itself", y.hide(0, 0), -16);
        y.take(1);
        Due.due("a lost one", y.hide(0, 1), -16);
        Due.refused(y, 2, 0, 0, 0, 0, 2, 0);
    }

    private static void hideNowhere() {
        MountainsInMourning x = new MountainsInMourning();
        x.peak(0, 0, 10, 100);
        x.peak(0, 0, 11, 50);
        Due.due("nothing between", x.hide(0, 1), -1);
        x.peak(0, 0, 12, 100);
        Due.due("a peak stands at the one place between", x.hide(0, 2), -1);
        Due.due("though a screen there would do", x.screened(0, 2, 11), 100);
    }

    private static void fits() {
        MountainsInMourning x = Due.inARow(0, 0, 0, 2);
        x.years(20);
        Due.numbers(x, 0, 0, -1, -1, -1);
        Due.due("fewer elements than peaks", x.fits(0), -5);
        Due.numbers(x, 0, 0, -1, -1, -1, -1, 55);
        Due.due("whatever", x.fits(0), 15);
        Due.numbers(x, 0, 0, -1, 40, -1, -1);
        Due.due("1 mourns 20 years: 0 or 2; or it is lost itself", x.fits(0), 7);
        Due.numbers(x, 0, 0, -1, -1, 40, 30);
        Due.due("2 mourns 20 years, or is lost itself; 3 mourns 10, or is", x.fits(0), 12);
        Due.numbers(x, 0, 3, 0, (1L << 32) + 40, 0, 77);
        Due.due("3 would have to be lost itself, but then 1 mourns none", x.fits(0), 0);
        Due.numbers(x, 0, 3, 0, (1L << 32) + 40, 0, 0);
        Due.due("longs count by their lowest bits", x.fits(0), 1);
        x.take(0);
        Due.numbers(x, 0, 0, 99, 40, 0, 30);
        Due.due("lost ones are told for nothing", x.fits(0), 4);
        x.show(1, 0);
        Due.due("no shelf", x.fits(8), -1);
        Due.due("a peak", x.fits(1), -2);
        Due.due("nothing", x.fits(2), -3);
        Due.refused(x, 1, 1, 1, 0, 1, 0, 0);
        MountainsInMourning y = new MountainsInMourning();
        y.row(0, 0, 0);
        Due.due("no peaks", y.fits(0), 0);
    }
}

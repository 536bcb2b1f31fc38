/** Promises 17 to 21: since when, who is black behind how many years, when all is white, milk of years. */
public final class MourningTest {
    public static void main(String[] args) {
        since();
        sinceRefusals();
        yearsOfMourning();
        untilIsTheLater();
        blackByKinds();
        blackInTheEnd();
        black();
        behind();
        white();
        yields();
        Due.end();
    }

    private static void since() {
        MountainsInMourning x = Due.inARow(0, 0, 0);
        Due.due("since the first year", x.since(0, 1), 0);
        Due.due("it doesn't see it", x.since(0, 2), -1);
        Due.due("it doesn't see itself", x.since(1, 1), -1);
        x.years(30);
        x.take(1);
        Due.due("since the one between is lost", x.since(0, 2), 30);
        Due.due("and the other way about", x.since(2, 0), 30);
        Due.due("a lost one sees none", x.since(1, 0), -1);
        Due.due("none sees a lost one", x.since(0, 1), -1);
        x.years(5);
        x.peak(0, 0, 5, 10);
        Due.due("hidden again", x.since(0, 2), -1);
        Due.due("the new one", x.since(0, 3), 35);
        x.years(5);
        x.take(3);
        Due.due("since the break", x.since(0, 2), 40);
        x.screen(15, 9);
        x.years(1);
        Due.due("a screen below the line breaks nothing", x.since(2, 0), 40);
        x.screen(15, 10);
        Due.due("one that reaches it does", x.since(2, 0), -1);
        MountainsInMourning y = new MountainsInMourning();
        y.peak(4, 0, 0, 10);
        y.peak(0, 0, 20, 10);
        Due.due("too far for the far one", y.since(0, 1), -1);
        Due.due("not for the other", y.since(1, 0), 0);
    }

    private static void sinceRefusals() {
        MountainsInMourning x = Due.inARow(0, 0);
        Due.due("no peak", x.since(2, 0), -11);
        Due.due("no peak", x.since(-1, 0), -11);
        Due.due("no other", x.since(0, 2), -11);
        Due.due("no other", x.since(0, -1), -11);
        Due.refused(x, 4, 0, 0, 0, 0, 0, 0);
    }

    private static void yearsOfMourning() {
        int[] due = {51, 51, 25, 51, 51, 9, 102};
        for (int kind = 0; kind <= 6; kind++) {
            MountainsInMourning x = Due.inARow(0, kind);
            x.years(51);
            x.take(0);
            Due.due("UNTIL of kind " + kind, x.peakOf(1, 5), 51 + due[kind]);
            Due.due("in mourning to the last year", x.black(1, due[kind] - 1), 1);
            Due.due("not in it behind that", x.black(1, due[kind]), 0);
        }
        MountainsInMourning y = Due.inARow(0, 5);
        y.years(7);
        y.take(0);
        Due.due("a spring that saw it for 7 years", y.peakOf(1, 5), 10);
    }

    private static void untilIsTheLater() {
        MountainsInMourning x = new MountainsInMourning();
        x.peak(0, 0, 0, 10);
        x.peak(0, 0, 10, 10);
        x.years(40);
        x.peak(0, 0, 20, 10);
        x.years(3);
        x.take(0);
        Due.due("43 years", x.peakOf(1, 5), 86);
        x.take(2);
        Due.due("3 years don't shorten it", x.peakOf(1, 5), 86);
        MountainsInMourning y = new MountainsInMourning();
        y.years(8);
        y.peak(0, 0, 0, 10);
        y.peak(0, 0, 10, 10);
        y.take(0);
        Due.due("UNTIL becomes YEAR and 0 years", y.peakOf(1, 5), 8);
        Due.due("that is no mourning", y.black(1, 0), 0);
    }

    private static void blackByKinds() {
        int[] due = {0, 1, 0, 1, 0, 0, 0};
        for (int kind = 0; kind <= 6; kind++) {
            MountainsInMourning x = Due.inARow(0, 0, kind, kind, kind);
            x.years(2);
            x.take(0);
            Due.due("kind " + kind + " beside one in mourning", x.black(2, 0), due[kind]);
            Due.due("kind " + kind + " beside that", x.black(3, 0), kind == 3 ? 1 : 0);
            Due.due("kind " + kind + " beside that", x.black(4, 0), kind == 3 ? 1 : 0);
        }
    }

    private static void blackInTheEnd() {
        MountainsInMourning x = Due.inARow(0, 0, 1, 3, 3, 3, 0, 3);
        x.years(4);
        Due.due("none is black by itself", x.behind(0, 0), 0);
        x.take(0);
        Due.due("courtly ones through each other, and one behind a white one", x.behind(0, 0), 2 + 4 + 8 + 16 + 32);
        Due.due("in the last year", x.behind(3, 0), 2 + 4 + 8 + 16 + 32);
        Due.due("behind it", x.behind(4, 0), 0);
        Due.due("how many", x.status(5), 5);
        MountainsInMourning z = Due.inARow(1, 0, 0);
        z.years(1);
        z.take(2);
        Due.due("the first of all is polite", z.behind(0, 0), 3);
        MountainsInMourning y = Due.inARow(3, 3, 3, 0, 0);
        y.years(1);
        y.take(4);
        Due.due("from the higher numbers to the lower", y.behind(0, 0), 15);
        y.take(1);
        Due.due("one sees the next behind the lost one", y.behind(0, 0), 13);
    }

    private static void black() {
        MountainsInMourning x = Due.inARow(0, 0);
        x.years(999);
        x.take(1);
        Due.due("no peak", x.black(2, -1), -1);
        Due.due("no peak", x.black(-1, 0), -1);
        Due.due("years below", x.black(0, -1), -6);
        Due.due("years above", x.black(0, 1000), -6);
        Due.due("years", x.black(0, 998), 1);
        Due.due("years", x.black(0, 999), 0);
        Due.due("a lost one", x.black(1, 0), 0);
        Due.refused(x, 2, 0, 0, 0, 0, 2, 0);
    }

    private static void behind() {
        MountainsInMourning x = Due.inARow(0, 0, 0);
        x.valley(10);
        x.valley(7);
        x.valley(500);
        x.under(0, 0, true);
        x.under(1, 2, true);
        x.under(2, 1, true);
        Due.due("milk of all", x.behind(0, 1), 517);
        x.years(10);
        x.take(1);
        Due.due("black ones", x.behind(0, 0), 5);
        Due.due("lost ones under a valley take no milk", x.behind(0, 1), 500);
        Due.due("milk behind it", x.behind(10, 1), 517);
        Due.due("milk behind 999 years", x.behind(999, 1), 517);
        Due.due("another what", x.behind(0, 2), -5);
        Due.due("another what", x.behind(-1, -1), -5);
        Due.due("years below", x.behind(-1, 0), -6);
        Due.due("years above", x.behind(1000, 1), -6);
        Due.refused(x, 0, 0, 0, 0, 2, 2, 0);
    }

    private static void white() {
        MountainsInMourning x = Due.inARow(6, 0, 0);
        Due.due("white at once", x.white(), 0);
        x.years(500);
        x.take(1);
        Due.due("not behind 999 years", x.white(), -1);
        x.years(1);
        Due.due("behind 999 years", x.white(), 999);
        x.take(0);
        Due.due("a lost one isn't black; the other mourns 500 years", x.white(), 499);
        x.years(499);
        Due.due("white at once", x.white(), 0);
    }

    private static void yields() {
        MountainsInMourning x = Due.inARow(0, 0);
        x.valley(3);
        x.valley(100);
        x.under(1, 0, true);
        x.years(20);
        x.take(1);
        Due.due("no years", x.yields(0), 0);
        Due.due("this year", x.yields(1), 3);
        Due.due("20 years", x.yields(20), 60);
        Due.due("21 years", x.yields(21), 163);
        Due.due("200 years", x.yields(200), 600 + 18000);
        Due.due("years below", x.yields(-1), -6);
        Due.due("years above", x.yields(201), -6);
        Due.refused(x, 0, 0, 0, 0, 0, 2, 0);
    }
}

/** Promises 29 to 33: fires, whom to send, signs, what a valley lacks, losses that wait. */
public final class FireTest {
    public static void main(String[] args) {
        fires();
        firesOfLost();
        send();
        chain();
        chainRefusals();
        lacks();
        saves();
        spared();
        Due.end();
    }

    private static void fires() {
        MountainsInMourning x = Due.inARow(0, 0, 0, 0, 0, 0, 0);
        Due.due("for none", x.fires(0), 0);
        Due.due("for one: itself or the neighbour, the least", x.fires(2), 1);
        Due.due("for three in a row", x.fires(7), 2);
        Due.due("for the two ends", x.fires(65), 33);
        Due.due("for all seven: three, at 0, 2 and 5 the least as bits (not 1, 3 and 5)", x.fires(127), 1 + 4 + 32);
        Due.due("others than there are", x.fires(128), -6);
        Due.due("others than there are", x.fires(-1), -6);
        Due.refused(x, 0, 0, 0, 0, 0, 2, 0);
    }

    private static void firesOfLost() {
        MountainsInMourning x = Due.inARow(0, 0, 0, 0);
        x.take(1);
        Due.due("lost ones need none", x.fires(2), 0);
        Due.due("and can have none", x.fires(7), 1);
        MountainsInMourning y = new MountainsInMourning();
        Due.due("no peaks", y.fires(0), 0);
        Due.due("no peaks", y.fires(1), -6);
        y.peak(4, 0, 0, 10);
        y.peak(0, 0, 50, 10);
        Due.due("a far one doesn't see the other's fire, but is seen", y.fires(3), 1);
        Due.due("a far one must have one itself", y.fires(1), 1);
    }

    private static void send() {
        MountainsInMourning x = new MountainsInMourning();
        Due.due("none stands", x.send(), -1);
        x.peak(0, 0, 0, 10);
        Due.due("one that none sees", x.send(), 0);
        x.peak(0, 0, 10, 10);
        Due.due("of several the first", x.send(), 0);
        x.peak(0, 0, 20, 10);
        Due.due("the one between", x.send(), 1);
        x.take(1);
        Due.due("of several the first", x.send(), 0);
        MountainsInMourning y = new MountainsInMourning();
        y.peak(4, 0, 50, 10);
        y.peak(0, 0, 10, 10);
        y.peak(4, 0, 5, 10);
        Due.due("seen by most, not seeing most: 1 sees 0, 2 sees 1, 1 sees 2", y.send(), 0);
        y.take(0);
        y.take(1);
        y.take(2);
        Due.due("none stands", y.send(), -1);
    }

    private static void chain() {
        MountainsInMourning x = Due.inARow(0, 0, 0, 0);
        Due.due("at once", x.chain(0, 1), 0);
        Due.due("through one", x.chain(2, 0), 1);
        Due.due("through two", x.chain(0, 3), 2);
        x.take(1);
        Due.due("fewer, when one is lost", x.chain(0, 3), 1);
        MountainsInMourning y = new MountainsInMourning();
        y.peak(4, 0, 0, 10);
        y.peak(0, 0, 50, 10);
        Due.due("the far one's sign is seen", y.chain(0, 1), 0);
        Due.due("the far one doesn't see the other's", y.chain(1, 0), -1);
        y.peak(0, 0, 10, 5);
        Due.due("but through one that it sees", y.chain(1, 0), 1);
        MountainsInMourning z = Due.inARow(0, 0, 0, 0, 0, 0, 0, 0, 0, 0);
        Due.due("through all others", z.chain(9, 0), 8);
    }

    private static void chainRefusals() {
        MountainsInMourning x = Due.inARow(0, 0, 0);
        x.take(2);
        Due.due("no peak", x.chain(3, 3), -11);
        Due.due("no peak", x.chain(-1, 0), -11);
        Due.due("no other", x.chain(0, 3), -11);
        Due.due("the same", x.chain(0, 0), -16);
        Due.due("to a lost one", x.chain(0, 2), -16);
        Due.due("from a lost one", x.chain(2, 0), -16);
        Due.refused(x, 3, 0, 0, 0, 0, 3, 0);
    }

    private static void lacks() {
        MountainsInMourning x = Due.inARow(0, 0, 2);
        Due.due("no valleys", x.lacks(0), -5);
        x.valley(5);
        x.valley(5);
        Due.due("of several the first", x.lacks(0), 0);
        x.under(0, 2, true);
        x.under(1, 0, true);
        x.years(50);
        x.take(1);
        Due.due("50 years are more than 25", x.lacks(0), 1);
        x.valley(0);
        Due.due("one that has none anyway", x.lacks(0), 2);
        Due.due("another what", x.lacks(2), -5);
        Due.due("another what", x.lacks(-1), -5);
        Due.refused(x, 0, 0, 0, 0, 3, 0, 0);
        MountainsInMourning y = Due.inARow(6, 0);
        y.years(100);
        y.valley(1);
        y.under(0, 0, true);
        y.valley(0);
        y.take(1);
        Due.due("all 100 years are counted, and no more", y.lacks(0), 0);
        MountainsInMourning z = Due.inARow(0, 0);
        z.valley(1);
        z.valley(1);
        z.under(1, 0, true);
        z.years(1);
        z.take(1);
        Due.due("this year is counted", z.lacks(0), 1);
    }

    private static void saves() {
        MountainsInMourning x = new MountainsInMourning();
        x.valley(5);
        Due.due("no peaks", x.lacks(1), -5);
        x.peak(0, 0, 0, 10);
        x.peak(0, 0, 10, 10);
        x.peak(2, 0, 20, 10);
        x.years(50);
        Due.due("of several the first", x.lacks(1), 0);
        x.take(1);
        Due.due("of several the first, still", x.lacks(1), 0);
        x.under(0, 2, true);
        Due.due("the one that the valley lacks milk for", x.lacks(1), 2);
        x.valley(3);
        x.under(1, 0, true);
        Due.due("150 are more than 125", x.lacks(1), 0);
        x.under(0, 0, true);
        Due.due("5 in 25 years, and 3 in 50", x.lacks(1), 0);
        x.take(0);
        x.under(0, 2, false);
        Due.due("nothing is lacking: the first, though it is lost", x.lacks(1), 0);
        MountainsInMourning y = new MountainsInMourning();
        y.peak(0, 0, 0, 10);
        Due.due("no valleys, but a peak", y.lacks(1), 0);
        Due.due("no valleys", y.lacks(0), -5);
    }

    private static void spared() {
        MountainsInMourning x = Due.inARow(0, 0, 0);
        x.years(10);
        Due.due("at once", x.spared(0, 10), 0);
        Due.due("it grows by the year", x.spared(0, 9), -1);
        x.take(0);
        Due.due("the one in mourning grows by none", x.spared(2, 0), 0);
        Due.due("v below 0", x.spared(2, -1), -16);
        Due.due("a lost one", x.spared(0, 5), -16);
        Due.due("no peak", x.spared(3, -1), -11);
        Due.due("no peak", x.spared(-1, 5), -11);
        Due.refused(x, 2, 0, 0, 0, 0, 2, 0);
    }
}

/**
 * Mountains in mourning: peaks that see each other over what lies between, that mourn those that
 * are lost, and what comes of it. The words of the comments are those of the document.
 */
public final class MountainsInMourning {
    public static final int NONE = -1;

    private static final int PEAK = 0;
    private static final int POLITE = 1;
    private static final int YOUNG = 2;
    private static final int COURTLY = 3;
    private static final int FAR = 4;
    private static final int SPRING = 5;
    private static final int OLD = 6;
    private static final int KINDS = 7;
    /** The KIND that each KIND is under. */
    private static final int[] ABOVE = {-1, 0, 0, 1, 0, 2, 4};

    private static final int NOBODY = 1;
    private static final int OTHER = 2;
    private static final int NOTHING = 3;
    private static final int BELOW = 4;
    private static final int BEYOND = 5;
    private static final int WRONG = 6;
    private static final int ROOM = 7;
    private static final int REFUSALS = 8;
    /** What is taken from a refusal where small negative numbers are answers too. */
    private static final int APART = 10;
    private static final int FAR_APART = 1000000;

    private static final int MOST_PEAKS = 10;
    private static final int MOST_SCREENS = 6;
    private static final int MOST_VALLEYS = 8;
    private static final int SHELVES = 8;
    private static final int MOST_ELEMENTS = 160;
    private static final int SORTS = 4;
    /** What a SHELF holds is a ROW from this number on. */
    private static final int ROWS = 100;
    private static final int PLACES = 100;
    private static final int HIGHEST = 999;
    private static final int MOST_MILK = 999;
    private static final int MOST_YEARS = 999;
    private static final int MOST_YIELD = 200;
    private static final int CENTURY = 100;
    private static final int MOST_IN_ORDER = 3;
    private static final int MOST_TAKINGS = 20;
    /** A told TAKING above this number is YEARS that pass. */
    private static final int TOLD_YEARS = 100;
    private static final int MOST_TOLD_YEARS = 99;
    private static final int MOST_AGES = 200;
    private static final int DRAW_OF_LOSS = 20;

    private final Range now = new Range();
    private final Range kept = new Range();
    private final Range trial = new Range();
    private boolean imageTaken;
    private final Row[] rows = new Row[SHELVES];
    /** What each SHELF holds, as holds() tells it. */
    private final int[] held = new int[SHELVES];
    private final int[] refusals = new int[REFUSALS];
    private int latestFault = NONE;
    private final Reader reader = new Reader();
    private final Mover mover = new Mover();
    private final Milking milking = new Milking();
    private final Orders orders = new Orders();

    public MountainsInMourning() {
        for (int s = 0; s < SHELVES; s++) {
            rows[s] = new Row();
            held[s] = NONE;
        }
    }

    // ---- SHELVES

    public int row(int s, int sort, int n) {
        if (!isShelf(s)) {
            return refused(NOBODY);
        }
        if (n < 0) {
            return refused(BELOW);
        }
        if (sort < 0 || sort >= SORTS) {
            return refused(WRONG);
        }
        if (n > MOST_ELEMENTS) {
            return refused(ROOM);
        }
        rows[s].begin(sort, n);
        held[s] = ROWS + sort;
        return 1;
    }

    public int set(int s, int i, long v) {
        int refusal = rowRefusal(s);
        if (refusal != 0) {
            return refused(refusal);
        }
        if (!rows[s].has(i)) {
            return refused(BEYOND);
        }
        rows[s].put(i, v);
        return 1;
    }

    public int copy(int p, int q, int i, int j, int n) {
        int refusal = copyRefusal(p, q);
        if (refusal != 0) {
            return refused(refusal);
        }
        if (n < 0) {
            return refused(BELOW);
        }
        if (!rows[p].hasRun(i, n) || !rows[q].hasRun(j, n)) {
            return refused(BEYOND);
        }
        rows[q].fillFrom(rows[p], i, j, n);
        return 1;
    }

    public long element(int s, int i) {
        return isShelf(s) && held[s] >= ROWS ? rows[s].get(i) : 0L;
    }

    public int show(int s, int peak) {
        if (!isShelf(s) || peak != NONE && !now.isPeak(peak)) {
            return refused(NOBODY);
        }
        held[s] = peak;
        return peak == NONE ? 0 : 1;
    }

    public int holds(int s) {
        return isShelf(s) ? held[s] : NONE;
    }

    public int says(int s, int kind) {
        if (!isShelf(s) || !isKind(kind)) {
            return refused(NOBODY);
        }
        int peak = held[s];
        if (peak == NONE) {
            return refused(NOTHING);
        }
        if (!now.isPeak(peak) || !isUnder(now.kind[peak], kind)) {
            return refused(OTHER);
        }
        return said(peak, kind);
    }

    private int said(int peak, int kind) {
        switch (kind) {
            case POLITE:
            case COURTLY:
                return bit(now.blackIn(now.year), peak);
            case YOUNG:
            case SPRING:
            case OLD:
                return now.mournedYears(peak, CENTURY);
            case FAR:
                return now.sightOf(peak);
            case PEAK:
            default:
                return now.height[peak];
        }
    }

    private int rowRefusal(int s) {
        if (!isShelf(s)) {
            return NOBODY;
        }
        if (held[s] == NONE) {
            return NOTHING;
        }
        return held[s] < ROWS ? OTHER : 0;
    }

    private int copyRefusal(int p, int q) {
        int first = rowRefusal(p);
        int second = rowRefusal(q);
        if (first == NOBODY || second == NOBODY) {
            return NOBODY;
        }
        if (first == OTHER || second == OTHER) {
            return OTHER;
        }
        if (first == NOTHING || second == NOTHING) {
            return NOTHING;
        }
        return held[p] == held[q] ? 0 : OTHER;
    }

    // ---- THE RANGE

    public int peak(int kind, int a, int place, int height) {
        if (!isKind(kind)) {
            return refused(NOBODY);
        }
        if (!isA(a) || !isPlace(place) || !isHeight(height) || now.hasPeakAt(place)) {
            return refused(WRONG);
        }
        if (now.peaks >= MOST_PEAKS) {
            return refused(ROOM);
        }
        return now.addPeak(kind, a, place, height);
    }

    public int screen(int place, int height) {
        if (!isPlace(place) || !isHeight(height)) {
            return refused(WRONG);
        }
        if (now.screens >= MOST_SCREENS) {
            return refused(ROOM);
        }
        return now.addScreen(place, height);
    }

    public int valley(int milk) {
        if (milk < 0 || milk > MOST_MILK) {
            return refused(WRONG);
        }
        if (now.valleys >= MOST_VALLEYS) {
            return refused(ROOM);
        }
        return now.addValley(milk);
    }

    public int under(int valley, int peak, boolean is) {
        if (!now.isValley(valley) || !now.isPeak(peak)) {
            return refused(NOBODY);
        }
        int was = bit(now.underBits[valley], peak);
        now.putUnder(valley, peak, is);
        return was;
    }

    public int peakOf(int peak, int what) {
        if (!now.isPeak(peak)) {
            return refused(BEYOND);
        }
        switch (what) {
            case 0:
                return now.kind[peak];
            case 1:
                return now.a[peak];
            case 2:
                return now.place[peak];
            case 3:
                return now.height[peak];
            case 4:
                return bit(now.standing, peak);
            case 5:
                return now.until[peak];
            case 6:
                return now.sees[peak];
            default:
                return refused(BEYOND);
        }
    }

    public int valleyOf(int valley, int what) {
        if (!now.isValley(valley)) {
            return refused(BEYOND);
        }
        switch (what) {
            case 0:
                return now.milk[valley];
            case 1:
                return now.underBits[valley];
            case 2:
                return now.milkOf(valley, now.blackIn(now.year));
            default:
                return refused(BEYOND);
        }
    }

    public int range(int s) {
        int refusal = rowRefusal(s);
        if (refusal != 0) {
            return refused(refusal);
        }
        trial.become(now);
        reader.begin(rows[s]);
        int items = 0;
        while (items < MOST_ELEMENTS && reader.readItem(trial)) {
            reader.comeTrue(trial);
            items++;
            if (!reader.goesOn()) {
                break;
            }
        }
        latestFault = reader.faultPlace;
        if (latestFault != NONE) {
            return refused(WRONG);
        }
        now.become(trial);
        return items;
    }

    public int fault() {
        return latestFault;
    }

    // ---- SEEING AND MOURNING

    public int since(int peak, int other) {
        if (!now.isPeak(peak) || !now.isPeak(other)) {
            return refused(NOBODY) - APART;
        }
        return now.seesPeak(peak, other) ? now.sinceOf(peak, other) : NONE;
    }

    public int black(int peak, int n) {
        if (!now.isPeak(peak)) {
            return refused(NOBODY);
        }
        if (n < 0 || n > MOST_YEARS) {
            return refused(WRONG);
        }
        return bit(now.blackIn(now.year + n), peak);
    }

    public int behind(int n, int what) {
        if (what != 0 && what != 1) {
            return refused(BEYOND);
        }
        if (n < 0 || n > MOST_YEARS) {
            return refused(WRONG);
        }
        int black = now.blackIn(now.year + n);
        return what == 0 ? black : now.milkOfAll(black);
    }

    public int white() {
        int wait = Math.max(now.latestUntil() - now.year, 0);
        return wait > MOST_YEARS ? NONE : wait;
    }

    public int yields(int n) {
        if (n < 0 || n > MOST_YIELD) {
            return refused(WRONG);
        }
        milking.look(now, n);
        return milking.yieldWithout(now, n, 0);
    }

    // ---- WHAT COMES OF IT

    public int grief(int peak) {
        if (!now.isPeak(peak)) {
            return refused(NOBODY);
        }
        if (!now.isStanding(peak)) {
            return refused(WRONG);
        }
        return now.griefOf(peak, now.year);
    }

    public int least() {
        int found = NONE;
        int leastGrief = 0;
        for (int p = 0; p < now.peaks; p++) {
            if (now.isStanding(p)) {
                int itsGrief = now.griefOf(p, now.year);
                if (found == NONE || itsGrief < leastGrief) {
                    found = p;
                    leastGrief = itsGrief;
                }
            }
        }
        return found;
    }

    public int order(int k, int i) {
        // an i goes with its k, so it is looked at only where such a row can be
        if (k < 1 || k > MOST_IN_ORDER || Integer.bitCount(now.standing) < k) {
            return refused(WRONG);
        }
        if (i < NONE || i >= k) {
            return refused(BEYOND);
        }
        orders.find(now, k);
        return i == NONE ? orders.leastGrief : orders.best[i];
    }

    public int cost(int peak) {
        if (!now.isPeak(peak)) {
            return refused(NOBODY) - FAR_APART;
        }
        if (!now.isStanding(peak)) {
            return refused(WRONG) - FAR_APART;
        }
        milking.look(now, CENTURY);
        int yieldNow = milking.yieldWithout(now, CENTURY, 0);
        trial.become(now);
        trial.lose(peak);
        milking.look(trial, CENTURY);
        return yieldNow - milking.yieldWithout(trial, CENTURY, 0);
    }

    public int screened(int peak, int other, int place) {
        if (!now.isPeak(peak) || !now.isPeak(other)) {
            return refused(NOBODY) - APART;
        }
        if (!now.seesPeak(peak, other) || !isPlace(place)) {
            return refused(WRONG) - APART;
        }
        return now.leastScreen(peak, other, place);
    }

    public int hide(int peak, int other) {
        if (!now.isPeak(peak) || !now.isPeak(other)) {
            return refused(NOBODY) - APART;
        }
        if (!now.seesPeak(peak, other)) {
            return refused(WRONG) - APART;
        }
        int found = NONE;
        int leastHeight = NONE;
        for (int at = 0; at < PLACES; at++) {
            int itsHeight = now.hasStandingPeakAt(at) ? NONE : now.leastScreen(peak, other, at);
            if (itsHeight != NONE && (found == NONE || itsHeight < leastHeight)) {
                found = at;
                leastHeight = itsHeight;
            }
        }
        return found;
    }

    public int fits(int s) {
        int refusal = rowRefusal(s);
        if (refusal != 0) {
            return refused(refusal);
        }
        if (rows[s].length < now.peaks) {
            return refused(BEYOND);
        }
        int found = 0;
        for (int p = 0; p < now.peaks; p++) {
            if (now.isStanding(p) && lossFits(p, rows[s])) {
                found |= 1 << p;
            }
        }
        return found;
    }

    private boolean lossFits(int lost, Row told) {
        for (int q = 0; q < now.peaks; q++) {
            int wanted = told.intAt(q);
            if (q != lost && now.isStanding(q) && wanted != NONE
                    && now.untilBehind(now.until[q], q, lost, now.year) != wanted) {
                return false;
            }
        }
        return true;
    }

    public int fires(int set) {
        if ((set & -(1 << now.peaks)) != 0) {
            return refused(WRONG);
        }
        int wanted = set & now.standing;
        int found = now.standing;
        for (int fire = (1 << now.peaks) - 1; fire >= 0; fire--) {
            // going down, the last of those with equally few fires is the least as bits
            if ((fire & ~now.standing) == 0 && Integer.bitCount(fire) <= Integer.bitCount(found)
                    && now.allSeeOne(wanted, fire)) {
                found = fire;
            }
        }
        return found;
    }

    public int send() {
        int found = NONE;
        int most = 0;
        for (int p = 0; p < now.peaks; p++) {
            if (now.isStanding(p)) {
                int watchers = Integer.bitCount(now.watchersOf(1 << p));
                if (found == NONE || watchers > most) {
                    found = p;
                    most = watchers;
                }
            }
        }
        return found;
    }

    public int chain(int peak, int other) {
        if (!now.isPeak(peak) || !now.isPeak(other)) {
            return refused(NOBODY) - APART;
        }
        if (peak == other || !now.isStanding(peak) || !now.isStanding(other)) {
            return refused(WRONG) - APART;
        }
        int knowing = 1 << peak;
        for (int through = 0; through < now.peaks; through++) {
            knowing |= now.watchersOf(knowing);
            if (bit(knowing, other) == 1) {
                return through;
            }
        }
        return NONE;
    }

    public int lacks(int what) {
        if (what == 0 && now.valleys > 0) {
            milking.look(now, CENTURY);
            return milking.poorestValley(now, CENTURY);
        }
        if (what == 1 && now.peaks > 0) {
            milking.look(now, CENTURY);
            return milking.savingPeak(now, CENTURY);
        }
        return refused(BEYOND);
    }

    public int spared(int peak, int v) {
        if (!now.isPeak(peak)) {
            return refused(NOBODY) - APART;
        }
        if (v < 0 || !now.isStanding(peak)) {
            return refused(WRONG) - APART;
        }
        for (int wait = 0; wait < CENTURY; wait++) {
            if (now.griefOf(peak, now.year + wait) <= v) {
                return wait;
            }
        }
        return NONE;
    }

    // ---- Told TAKINGS

    public int judge(int s, int n) {
        int refusal = takingsRefusal(s, n, true);
        if (refusal != 0) {
            return refused(refusal) - APART;
        }
        return firstWrong(rows[s], n);
    }

    public int told(int s, int n, int what) {
        int refusal = takingsRefusal(s, n, what >= 0 && what <= 2);
        if (refusal != 0) {
            return refused(refusal);
        }
        if (firstWrong(rows[s], n) != NONE) {
            return refused(WRONG);
        }
        trial.become(now);
        int together = trial.comeToPass(rows[s], n);
        if (what == 0) {
            return together;
        }
        return what == 1 ? trial.blackIn(trial.year) : trial.year;
    }

    public int done(int s, int n) {
        int refusal = takingsRefusal(s, n, true);
        if (refusal != 0) {
            return refused(refusal);
        }
        if (firstWrong(rows[s], n) != NONE) {
            return refused(WRONG);
        }
        now.comeToPass(rows[s], n);
        return now.year;
    }

    private int takingsRefusal(int s, int n, boolean tellable) {
        int refusal = rowRefusal(s);
        if (refusal != 0) {
            return refusal;
        }
        if (n < 0) {
            return BELOW;
        }
        if (n > rows[s].length || !tellable) {
            return BEYOND;
        }
        return n > MOST_TAKINGS ? WRONG : 0;
    }

    private int firstWrong(Row takings, int n) {
        int left = now.standing;
        for (int i = 0; i < n; i++) {
            int taking = takings.intAt(i);
            if (now.isPeak(taking) && bit(left, taking) == 1) {
                left &= ~(1 << taking);
            } else if (taking <= TOLD_YEARS || taking > TOLD_YEARS + MOST_TOLD_YEARS) {
                return i;
            }
        }
        return NONE;
    }

    // ---- IN TRUTH

    public int take(int peak) {
        if (!now.isPeak(peak)) {
            return refused(NOBODY);
        }
        if (!now.isStanding(peak)) {
            return refused(WRONG);
        }
        return now.lose(peak);
    }

    public int years(int n) {
        if (n < 1 || n > MOST_YEARS) {
            return refused(WRONG);
        }
        now.year += n;
        return now.year;
    }

    public int ages(int n) {
        if (n < 1 || n > MOST_AGES) {
            return refused(WRONG);
        }
        int lost = 0;
        for (int y = 0; y < n; y++) {
            if (now.draw(DRAW_OF_LOSS) == 0 && now.standing != 0) {
                now.lose(now.standingAt(now.draw(Integer.bitCount(now.standing))));
                lost++;
            }
            now.year++;
        }
        return lost;
    }

    public int seed(int v) {
        int was = now.seedNow;
        now.seedNow = v;
        return was;
    }

    // ---- MOVES, THE IMAGE, status

    public int act(int peak, int move, int x) {
        mover.forget();
        if (!now.isPeak(peak) || move < 0 || move >= Mover.MOVES) {
            return 0;
        }
        return mover.begin(now, peak, move, x);
    }

    public int trace(int i) {
        return i >= 0 && i < mover.ran && i < Mover.MOST_KEPT ? mover.began[i] : NONE;
    }

    public int image() {
        kept.become(now);
        imageTaken = true;
        return now.peaks;
    }

    public int restore() {
        if (!imageTaken) {
            return refused(WRONG);
        }
        now.become(kept);
        for (int s = 0; s < SHELVES; s++) {
            if (held[s] < ROWS && held[s] >= now.peaks) {
                held[s] = NONE;
            }
        }
        return now.peaks;
    }

    public int status(int what) {
        if (what > 10 && what < 10 + REFUSALS) {
            return refusals[what - 10];
        }
        switch (what) {
            case 0:
                return now.peaks;
            case 1:
                return Integer.bitCount(now.standing);
            case 2:
                return now.screens;
            case 3:
                return now.valleys;
            case 4:
                return now.year;
            case 5:
                return Integer.bitCount(now.blackIn(now.year));
            case 6:
                return now.seedNow;
            case 7:
                return mover.ran;
            default:
                return NONE;
        }
    }

    // ---- What may be

    private int refused(int refusal) {
        refusals[refusal]++;
        return -refusal;
    }

    private static boolean isShelf(int s) {
        return s >= 0 && s < SHELVES;
    }

    private static boolean isKind(int kind) {
        return kind >= 0 && kind < KINDS;
    }

    private static boolean isA(int a) {
        return a >= 0 && a <= 9;
    }

    private static boolean isPlace(int place) {
        return place >= 0 && place < PLACES;
    }

    private static boolean isHeight(int height) {
        return height >= 1 && height <= HIGHEST;
    }

    /** Whether a KIND is the wanted one, or under it. */
    private static boolean isUnder(int kind, int wanted) {
        int above = kind;
        for (int step = 0; step < KINDS && isKind(above); step++) {
            if (above == wanted) {
                return true;
            }
            above = ABOVE[above];
        }
        return false;
    }

    private static int bit(int bits, int i) {
        return bits >> i & 1;
    }

    /** A ROW; the elements of all sorts lie as longs, already cut to the bits of the sort. */
    private static final class Row {
        private final long[] elements = new long[MOST_ELEMENTS];
        private int sort;
        private int length;

        void begin(int newSort, int n) {
            sort = newSort;
            length = n;
            for (int i = 0; i < n; i++) {
                elements[i] = 0L;
            }
        }

        boolean has(int i) {
            return i >= 0 && i < length;
        }

        boolean hasRun(int i, int n) {
            // i + n could wrap
            return i >= 0 && i <= length - n;
        }

        long get(int i) {
            return has(i) ? elements[i] : 0L;
        }

        int intAt(int i) {
            return has(i) ? (int) elements[i] : 0;
        }

        void put(int i, long v) {
            if (has(i)) {
                elements[i] = cut(v);
            }
        }

        private long cut(long v) {
            switch (sort) {
                case 0:
                    return (byte) v;
                case 1:
                    return (short) v;
                case 2:
                    return (int) v;
                default:
                    return v;
            }
        }

        void fillFrom(Row other, int i, int j, int n) {
            System.arraycopy(other.elements, i, elements, j, n);
        }
    }

    /** All that THE IMAGE keeps: PEAKS, SCREENS, VALLEYS, YEAR, SEED. */
    private static final class Range {
        private int peaks;
        private int standing;
        private final int[] kind = new int[MOST_PEAKS];
        private final int[] a = new int[MOST_PEAKS];
        private final int[] place = new int[MOST_PEAKS];
        private final int[] height = new int[MOST_PEAKS];
        private final int[] until = new int[MOST_PEAKS];
        private final int[] sees = new int[MOST_PEAKS];
        private final int[] sinceYear = new int[MOST_PEAKS * MOST_PEAKS];
        private final int[] sawAhead = new int[MOST_PEAKS];
        private int screens;
        private final int[] screenPlace = new int[MOST_SCREENS];
        private final int[] screenHeight = new int[MOST_SCREENS];
        private int valleys;
        private final int[] milk = new int[MOST_VALLEYS];
        private final int[] underBits = new int[MOST_VALLEYS];
        private int year;
        private int seedNow = 1;

        void become(Range other) {
            peaks = other.peaks;
            standing = other.standing;
            System.arraycopy(other.kind, 0, kind, 0, MOST_PEAKS);
            System.arraycopy(other.a, 0, a, 0, MOST_PEAKS);
            System.arraycopy(other.place, 0, place, 0, MOST_PEAKS);
            System.arraycopy(other.height, 0, height, 0, MOST_PEAKS);
            System.arraycopy(other.until, 0, until, 0, MOST_PEAKS);
            System.arraycopy(other.sees, 0, sees, 0, MOST_PEAKS);
            System.arraycopy(other.sinceYear, 0, sinceYear, 0, MOST_PEAKS * MOST_PEAKS);
            screens = other.screens;
            System.arraycopy(other.screenPlace, 0, screenPlace, 0, MOST_SCREENS);
            System.arraycopy(other.screenHeight, 0, screenHeight, 0, MOST_SCREENS);
            valleys = other.valleys;
            System.arraycopy(other.milk, 0, milk, 0, MOST_VALLEYS);
            System.arraycopy(other.underBits, 0, underBits, 0, MOST_VALLEYS);
            year = other.year;
            seedNow = other.seedNow;
        }

        boolean isPeak(int p) {
            return p >= 0 && p < peaks;
        }

        boolean isStanding(int p) {
            return isPeak(p) && bit(standing, p) == 1;
        }

        boolean isValley(int v) {
            return v >= 0 && v < valleys;
        }

        boolean hasPeakAt(int at) {
            for (int p = 0; p < peaks; p++) {
                if (place[p] == at) {
                    return true;
                }
            }
            return false;
        }

        boolean hasStandingPeakAt(int at) {
            for (int p = 0; p < peaks; p++) {
                if (place[p] == at && isStanding(p)) {
                    return true;
                }
            }
            return false;
        }

        int addPeak(int itsKind, int itsA, int itsPlace, int itsHeight) {
            if (peaks >= MOST_PEAKS) {
                return NONE;
            }
            int p = peaks;
            kind[p] = itsKind;
            a[p] = itsA;
            place[p] = itsPlace;
            height[p] = itsHeight;
            until[p] = 0;
            sees[p] = 0;
            standing |= 1 << p;
            peaks++;
            lookAround();
            return p;
        }

        int addScreen(int itsPlace, int itsHeight) {
            if (screens >= MOST_SCREENS) {
                return NONE;
            }
            screenPlace[screens] = itsPlace;
            screenHeight[screens] = itsHeight;
            screens++;
            lookAround();
            return screens - 1;
        }

        int addValley(int itsMilk) {
            if (valleys >= MOST_VALLEYS) {
                return NONE;
            }
            milk[valleys] = itsMilk;
            underBits[valleys] = 0;
            valleys++;
            return valleys - 1;
        }

        void putUnder(int v, int p, boolean is) {
            if (is) {
                underBits[v] |= 1 << p;
            } else {
                underBits[v] &= ~(1 << p);
            }
        }

        // ---- seeing

        boolean seesPeak(int p, int q) {
            return bit(sees[p], q) == 1;
        }

        int sinceOf(int p, int q) {
            return sinceYear[p * MOST_PEAKS + q];
        }

        /** How far a FAR or OLD PEAK sees. */
        int sightOf(int p) {
            return 10 * a[p] + 10;
        }

        private void lookAround() {
            for (int p = 0; p < peaks; p++) {
                sawAhead[p] = sees[p];
                sees[p] = 0;
            }
            for (int p = 0; p < peaks; p++) {
                for (int q = 0; q < peaks; q++) {
                    if (place[p] < place[q] && isStanding(p) && isStanding(q) && isFreeBetween(p, q)) {
                        lookFrom(p, q);
                        lookFrom(q, p);
                    }
                }
            }
        }

        /** The line from p to q is free: p SEES q unless that is too far for it. */
        private void lookFrom(int p, int q) {
            if (isUnder(kind[p], FAR) && Math.abs(place[p] - place[q]) > sightOf(p)) {
                return;
            }
            sees[p] |= 1 << q;
            if (bit(sawAhead[p], q) == 0) {
                sinceYear[p * MOST_PEAKS + q] = year;
            }
        }

        private boolean isFreeBetween(int left, int right) {
            for (int p = 0; p < peaks; p++) {
                if (isStanding(p) && blocks(left, right, place[p], height[p])) {
                    return false;
                }
            }
            for (int i = 0; i < screens; i++) {
                if (blocks(left, right, screenPlace[i], screenHeight[i])) {
                    return false;
                }
            }
            return true;
        }

        private boolean blocks(int left, int right, int at, int top) {
            return at > place[left] && at < place[right]
                    && top * (place[right] - place[left]) >= lineOver(left, right, at);
        }

        /** The line from top to top over a place between, times the width: so it is whole, and exact. */
        private int lineOver(int left, int right, int at) {
            return height[left] * (place[right] - at) + height[right] * (at - place[left]);
        }

        /** The least height of a SCREEN that reaches the line between two tops at a place; NONE. */
        int leastScreen(int p, int q, int at) {
            int left = place[p] < place[q] ? p : q;
            int right = left == p ? q : p;
            int width = place[right] - place[left];
            if (width <= 0 || at <= place[left] || at >= place[right]) {
                return NONE;
            }
            // no top is above HIGHEST or below 1, so neither is the line
            return (lineOver(left, right, at) + width - 1) / width;
        }

        /** The PEAKS that SEE one of some, as bits. */
        int watchersOf(int some) {
            int watchers = 0;
            for (int q = 0; q < peaks; q++) {
                if ((sees[q] & some) != 0) {
                    watchers |= 1 << q;
                }
            }
            return watchers;
        }

        boolean allSeeOne(int some, int fire) {
            for (int p = 0; p < peaks; p++) {
                if (bit(some, p) == 1 && ((sees[p] | 1 << p) & fire) == 0) {
                    return false;
                }
            }
            return true;
        }

        // ---- mourning

        /** How many YEARS a PEAK mourns one that it has seen for so many. */
        int mournedYears(int p, int seen) {
            switch (kind[p]) {
                case YOUNG:
                    return seen / 2;
                case SPRING:
                    return Math.min(seen / 2, a[p]);
                case OLD:
                    return seen * 2;
                default:
                    return seen;
            }
        }

        /** What becomes of an UNTIL of q behind a LOSS in a YEAR. */
        int untilBehind(int untilOfQ, int q, int lost, int then) {
            if (!seesPeak(q, lost)) {
                return untilOfQ;
            }
            return Math.max(untilOfQ, then + mournedYears(q, then - sinceOf(q, lost)));
        }

        /** GRIEF of a LOSS in a YEAR; none but those that SEE the lost one, so that STAND, can grow. */
        int griefOf(int lost, int then) {
            int sum = 0;
            for (int q = 0; q < peaks; q++) {
                sum += Math.max(untilBehind(until[q], q, lost, then), then) - Math.max(until[q], then);
            }
            return sum;
        }

        /** A PEAK is LOST: its GRIEF. */
        int lose(int lost) {
            int sum = griefOf(lost, year);
            for (int q = 0; q < peaks; q++) {
                until[q] = untilBehind(until[q], q, lost, year);
            }
            standing &= ~(1 << lost);
            lookAround();
            return sum;
        }

        /** Told TAKINGS that were judged ahead: GRIEF of all together. */
        int comeToPass(Row takings, int n) {
            int sum = 0;
            for (int i = 0; i < n; i++) {
                int taking = takings.intAt(i);
                if (taking > TOLD_YEARS) {
                    year += taking - TOLD_YEARS;
                } else if (isStanding(taking)) {
                    sum += lose(taking);
                }
            }
            return sum;
        }

        int latestUntil() {
            int latest = 0;
            for (int p = 0; p < peaks; p++) {
                if (isStanding(p)) {
                    latest = Math.max(latest, until[p]);
                }
            }
            return latest;
        }

        private int mourningIn(int then) {
            int mourning = 0;
            for (int p = 0; p < peaks; p++) {
                if (isStanding(p) && then < until[p]) {
                    mourning |= 1 << p;
                }
            }
            return mourning;
        }

        int blackIn(int then) {
            int mourning = mourningIn(then);
            int black = mourning;
            for (int p = 0; p < peaks; p++) {
                if (isUnder(kind[p], POLITE) && (sees[p] & mourning) != 0) {
                    black |= 1 << p;
                }
            }
            // a round that blackens none is the last: so there are no more rounds than PEAKS
            for (int round = 0; round < peaks; round++) {
                int more = blackenCourtly(black);
                if (more == black) {
                    break;
                }
                black = more;
            }
            return black;
        }

        private int blackenCourtly(int black) {
            int more = black;
            for (int p = 0; p < peaks; p++) {
                if (kind[p] == COURTLY && (sees[p] & more) != 0) {
                    more |= 1 << p;
                }
            }
            return more;
        }

        int milkOf(int v, int black) {
            return (underBits[v] & black) == 0 ? milk[v] : 0;
        }

        int milkOfAll(int black) {
            int sum = 0;
            for (int v = 0; v < valleys; v++) {
                sum += milkOf(v, black);
            }
            return sum;
        }

        // ---- draws

        int draw(int n) {
            seedNow = seedNow * 1103515245 + 12345;
            return n > 0 ? (seedNow >>> 16) % n : 0;
        }

        /** The PEAK that STANDS with so many ones that STAND before it. */
        int standingAt(int i) {
            int ahead = 0;
            for (int p = 0; p < peaks; p++) {
                if (isStanding(p)) {
                    if (ahead == i) {
                        return p;
                    }
                    ahead++;
                }
            }
            return NONE;
        }
    }

    /** MILK of many YEARS: who is BLACK in each is looked up once, for all questions about them. */
    private static final class Milking {
        private final int[] blackIn = new int[MOST_YIELD];

        void look(Range range, int n) {
            for (int y = 0; y < n && y < MOST_YIELD; y++) {
                blackIn[y] = range.blackIn(range.year + y);
            }
        }

        /** YIELD, were some PEAKS not UNDER any VALLEY. */
        int yieldWithout(Range range, int n, int some) {
            int sum = 0;
            for (int y = 0; y < n && y < MOST_YIELD; y++) {
                sum += range.milkOfAll(blackIn[y] & ~some);
            }
            return sum;
        }

        int poorestValley(Range range, int n) {
            int found = NONE;
            int most = 0;
            for (int v = 0; v < range.valleys; v++) {
                int empty = yearsWithoutMilk(range, n, v);
                if (found == NONE || empty > most) {
                    found = v;
                    most = empty;
                }
            }
            return found;
        }

        private int yearsWithoutMilk(Range range, int n, int v) {
            int empty = 0;
            for (int y = 0; y < n && y < MOST_YIELD; y++) {
                if (range.milkOf(v, blackIn[y]) == 0) {
                    empty++;
                }
            }
            return empty;
        }

        int savingPeak(Range range, int n) {
            int found = NONE;
            int most = 0;
            for (int p = 0; p < range.peaks; p++) {
                int itsYield = yieldWithout(range, n, 1 << p);
                if (found == NONE || itsYield > most) {
                    found = p;
                    most = itsYield;
                }
            }
            return found;
        }
    }

    /** ORDER: all rows of a few PEAKS, by their numbers. */
    private static final class Orders {
        private int leastGrief;
        private final int[] best = new int[MOST_IN_ORDER];
        private final int[] tried = new int[MOST_IN_ORDER];
        private final int[][] untils = new int[MOST_IN_ORDER + 1][MOST_PEAKS];
        private boolean found;

        void find(Range range, int k) {
            found = false;
            leastGrief = 0;
            System.arraycopy(range.until, 0, untils[0], 0, MOST_PEAKS);
            search(this, range, k, 0, 0, range.standing);
        }

        private static void search(Orders orders, Range range, int k, int depth, int sum, int left) {
            if (depth >= k || depth >= MOST_IN_ORDER) {
                orders.keep(sum);
                return;
            }
            for (int p = 0; p < range.peaks; p++) {
                if (bit(left, p) == 1) {
                    orders.tried[depth] = p;
                    int behind = left & ~(1 << p);
                    int more = orders.mournNext(range, p, depth, behind);
                    search(orders, range, k, depth + 1, sum + more, behind);
                }
            }
        }

        private void keep(int sum) {
            if (!found || sum < leastGrief) {
                found = true;
                leastGrief = sum;
                System.arraycopy(tried, 0, best, 0, MOST_IN_ORDER);
            }
        }

        /**
         * The next UNTILS behind one more LOSS: its GRIEF. Who SEES whom needs no new look: what comes
         * into sight by a LOSS of this YEAR is seen for 0 YEARS, and so causes no GRIEF in it.
         */
        private int mournNext(Range range, int lost, int depth, int behind) {
            int sum = 0;
            for (int q = 0; q < range.peaks; q++) {
                int before = untils[depth][q];
                int after = before;
                if (bit(behind, q) == 1) {
                    after = range.untilBehind(before, q, lost, range.year);
                    sum += Math.max(after, range.year) - Math.max(before, range.year);
                }
                untils[depth + 1][q] = after;
            }
            return sum;
        }
    }

    /** Reads the ITEMS of a RANGE from the letters of a ROW, each over what the ones ahead made. */
    private static final class Reader {
        private static final int PEAK_WORD = 0;
        private static final int SCREEN_WORD = 1;
        private static final int VALLEY_WORD = 2;
        private static final int UNDER_WORD = 3;
        private static final int YEARS_WORD = 4;
        private static final int WORDS = 6;
        private static final int[] NUMBERS_BEHIND = {4, 2, 1, 2, 1, 1};
        private static final int MOST_NUMBERS = 4;
        private static final int MOST_DIGITS = 3;

        private Row text;
        private int at;
        private int faultPlace = NONE;
        private int word;
        private final int[] numbers = new int[MOST_NUMBERS];

        void begin(Row letters) {
            text = letters;
            at = 0;
            faultPlace = NONE;
        }

        /** Whether an ITEM that can stand over a Range could be read; else there is a FAULT. */
        boolean readItem(Range over) {
            int start = at;
            word = wordHere();
            if (word == NONE) {
                return faultAt(at);
            }
            String letters = lettersOf(word);
            for (int i = 0; i < letters.length(); i++) {
                if (!passLetter(letters.charAt(i))) {
                    return false;
                }
            }
            if (!hasRoom(over)) {
                return faultAt(start);
            }
            for (int i = 0; i < NUMBERS_BEHIND[word]; i++) {
                if (!passLetter(' ') || !readNumber(over, i)) {
                    return false;
                }
            }
            return true;
        }

        /** Whether one more ITEM is to come; what stands here in its place is a FAULT. */
        boolean goesOn() {
            return text != null && at < text.length && passLetter(';');
        }

        /** The first letters of the words are all different, so that the first one tells the word. */
        private int wordHere() {
            for (int first = 0; first < WORDS; first++) {
                if (elementHere() == lettersOf(first).charAt(0)) {
                    return first;
                }
            }
            return NONE;
        }

        private static String lettersOf(int ofWord) {
            switch (ofWord) {
                case PEAK_WORD:
                    return "peak";
                case SCREEN_WORD:
                    return "screen";
                case VALLEY_WORD:
                    return "valley";
                case UNDER_WORD:
                    return "under";
                case YEARS_WORD:
                    return "years";
                default:
                    return "take";
            }
        }

        private boolean hasRoom(Range over) {
            switch (word) {
                case PEAK_WORD:
                    return over.peaks < MOST_PEAKS;
                case SCREEN_WORD:
                    return over.screens < MOST_SCREENS;
                case VALLEY_WORD:
                    return over.valleys < MOST_VALLEYS;
                default:
                    return true;
            }
        }

        private boolean readNumber(Range over, int i) {
            int start = at;
            int number = 0;
            while (at - start < MOST_DIGITS && digitHere() != NONE) {
                number = 10 * number + digitHere();
                at++;
            }
            if (at == start) {
                return faultAt(at);
            }
            numbers[i] = number;
            return mayBe(over, i, number) || faultAt(start);
        }

        private boolean mayBe(Range over, int i, int number) {
            switch (word) {
                case PEAK_WORD:
                    return mayBeOfPeak(over, i, number);
                case SCREEN_WORD:
                    return i == 0 ? isPlace(number) : isHeight(number);
                case VALLEY_WORD:
                    return number <= MOST_MILK;
                case UNDER_WORD:
                    return i == 0 ? over.isValley(number) : over.isPeak(number);
                case YEARS_WORD:
                    return number >= 1 && number <= MOST_YEARS;
                default:
                    return over.isStanding(number);
            }
        }

        private static boolean mayBeOfPeak(Range over, int i, int number) {
            switch (i) {
                case 0:
                    return isKind(number);
                case 1:
                    return isA(number);
                case 2:
                    return isPlace(number) && !over.hasPeakAt(number);
                default:
                    return isHeight(number);
            }
        }

        /** What the ITEM that was read tells happens to a Range. */
        void comeTrue(Range range) {
            switch (word) {
                case PEAK_WORD:
                    range.addPeak(numbers[0], numbers[1], numbers[2], numbers[3]);
                    break;
                case SCREEN_WORD:
                    range.addScreen(numbers[0], numbers[1]);
                    break;
                case VALLEY_WORD:
                    range.addValley(numbers[0]);
                    break;
                case UNDER_WORD:
                    range.putUnder(numbers[0], numbers[1], true);
                    break;
                case YEARS_WORD:
                    range.year += numbers[0];
                    break;
                default:
                    range.lose(numbers[0]);
                    break;
            }
        }

        /** The element here, or 0, which is no letter, behind the end. */
        private int elementHere() {
            return text == null ? 0 : text.intAt(at);
        }

        private int digitHere() {
            int digit = elementHere() - '0';
            return digit >= 0 && digit <= 9 ? digit : NONE;
        }

        private boolean passLetter(int letter) {
            if (elementHere() != letter) {
                return faultAt(at);
            }
            at++;
            return true;
        }

        private boolean faultAt(int faulty) {
            faultPlace = faulty;
            return false;
        }
    }

    /** MOVES and THE TRACE of the latest one. */
    private static final class Mover {
        private static final int SEES = 0;
        private static final int MOURNS = 1;
        private static final int LEANS = 2;
        private static final int MOVES = 3;
        private static final int MOST_KEPT = 20;
        private static final int DEEPEST = 40;
        /** The body of each move for each KIND, its own or the next above. */
        private static final int[] BODIES = {
            10, 20, 10, 20, 51, 10, 70,
            11, 11, 30, 40, 11, 30, 71,
            12, 12, 12, 12, 50, 60, 50};

        private int ran;
        private final int[] began = new int[MOST_KEPT];
        private int kind;
        private int m;
        private int k;

        void forget() {
            ran = 0;
        }

        int begin(Range range, int peak, int move, int x) {
            kind = range.kind[peak];
            m = peak;
            k = range.a[peak];
            return own(move, x, 0);
        }

        private int own(int move, int x, int depth) {
            return run(kind, move, x, depth);
        }

        private int above(int body, int move, int x, int depth) {
            // the tens of a body's number are its KIND's number and 1
            return run(ABOVE[body / 10 - 1], move, x, depth);
        }

        private int run(int from, int move, int x, int depth) {
            if (depth > DEEPEST || !isKind(from)) {
                return 0;
            }
            int body = BODIES[move * KINDS + from];
            note(body);
            int deeper = depth + 1;
            switch (body) {
                case 11:
                    return own(SEES, x, deeper) * 2;
                case 12:
                    int mourned = own(MOURNS, x, deeper);
                    return mourned ^ own(SEES, x - k, deeper);
                case 20:
                    return above(body, SEES, x, deeper) + k;
                case 30:
                    return above(body, MOURNS, x, deeper) * 3;
                case 40:
                    return above(body, MOURNS, x + 1, deeper);
                case 50:
                    return -above(body, LEANS, x, deeper);
                case 51:
                    return above(body, SEES, x, deeper) - m;
                case 60:
                    return above(body, LEANS, x, deeper) ^ 5;
                case 70:
                    return above(body, SEES, x, deeper) * 2;
                case 71:
                    return above(body, MOURNS, x - k, deeper);
                default:
                    return x + m;
            }
        }

        private void note(int body) {
            if (ran < MOST_KEPT) {
                began[ran] = body;
            }
            ran++;
        }
    }
}

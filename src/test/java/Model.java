import java.util.ArrayList;
import java.util.Arrays;
import java.util.List;

/**
 * The document once more, as plainly as can be and in another way than the class: every question is answered by
 * trying it out on a deep copy, every sight by looking anew. Slow; for comparison alone.
 */
final class Model {
    static final class Fault extends RuntimeException {
        private static final long serialVersionUID = 1L;
        final int place;

        Fault(int place) {
            this.place = place;
        }
    }

    static final class P {
        int kind;
        int a;
        int place;
        int height;
        boolean stands = true;
        int until;

        P copy() {
            P p = new P();
            p.kind = kind;
            p.a = a;
            p.place = place;
            p.height = height;
            p.stands = stands;
            p.until = until;
            return p;
        }
    }

    /** A range of peaks, screens, valleys, with year and seed. */
    static final class World {
        List<P> peaks = new ArrayList<>();
        List<int[]> screens = new ArrayList<>();
        List<Integer> milks = new ArrayList<>();
        List<boolean[]> unders = new ArrayList<>();
        Integer[][] since = new Integer[10][10];
        int year;
        int seed = 1;

        World copy() {
            World w = new World();
            for (P p : peaks) {
                w.peaks.add(p.copy());
            }
            for (int[] s : screens) {
                w.screens.add(s.clone());
            }
            w.milks.addAll(milks);
            for (boolean[] u : unders) {
                w.unders.add(u.clone());
            }
            for (int i = 0; i < 10; i++) {
                w.since[i] = since[i].clone();
            }
            w.year = year;
            w.seed = seed;
            return w;
        }

        boolean under(double at, double top, P p, P q) {
            // strictly below the line from top to top: by slopes, cross-multiplied
            P l = p.place < q.place ? p : q;
            P r = l == p ? q : p;
            long rise = (long) (r.height - l.height) * (long) (at - l.place);
            long own = (long) (top - l.height) * (r.place - l.place);
            return own < rise;
        }

        boolean looks(int i, int j) {
            P p = peaks.get(i);
            P q = peaks.get(j);
            if (i == j || !p.stands || !q.stands) {
                return false;
            }
            int from = Math.min(p.place, q.place);
            int to = Math.max(p.place, q.place);
            for (P r : peaks) {
                if (r.stands && r.place > from && r.place < to && !under(r.place, r.height, p, q)) {
                    return false;
                }
            }
            for (int[] s : screens) {
                if (s[0] > from && s[0] < to && !under(s[0], s[1], p, q)) {
                    return false;
                }
            }
            return p.kind != 4 && p.kind != 6 || to - from <= 10 * (p.a + 1);
        }

        void look() {
            for (int i = 0; i < peaks.size(); i++) {
                for (int j = 0; j < peaks.size(); j++) {
                    if (!looks(i, j)) {
                        since[i][j] = null;
                    } else if (since[i][j] == null) {
                        since[i][j] = year;
                    }
                }
            }
        }

        int sees(int i) {
            int bits = 0;
            for (int j = 0; j < peaks.size(); j++) {
                bits += since[i][j] != null ? 1 << j : 0;
            }
            return bits;
        }

        int mourns(int i, int seen) {
            P p = peaks.get(i);
            switch (p.kind) {
                case 2:
                    return seen / 2;
                case 5:
                    return seen / 2 > p.a ? p.a : seen / 2;
                case 6:
                    return 2 * seen;
                default:
                    return seen;
            }
        }

        int lose(int i) {
            int grief = 0;
            for (int j = 0; j < peaks.size(); j++) {
                P q = peaks.get(j);
                if (j != i && q.stands && since[j][i] != null) {
                    int before = Math.max(q.until, year);
                    int told = year + mourns(j, year - since[j][i]);
                    if (told > q.until) {
                        q.until = told;
                    }
                    grief += Math.max(q.until, year) - before;
                }
            }
            peaks.get(i).stands = false;
            look();
            return grief;
        }

        boolean mourning(int i, int then) {
            return peaks.get(i).stands && then < peaks.get(i).until;
        }

        boolean black(int i, int then, boolean[] asked) {
            P p = peaks.get(i);
            if (!p.stands) {
                return false;
            }
            if (mourning(i, then)) {
                return true;
            }
            if (p.kind == 1) {
                for (int j = 0; j < peaks.size(); j++) {
                    if (since[i][j] != null && mourning(j, then)) {
                        return true;
                    }
                }
            }
            if (p.kind == 3 && !asked[i]) {
                asked[i] = true;
                for (int j = 0; j < peaks.size(); j++) {
                    if (since[i][j] != null && black(j, then, asked)) {
                        return true;
                    }
                }
            }
            return false;
        }

        boolean black(int i, int then) {
            return black(i, then, new boolean[10]);
        }

        int blacks(int then) {
            int bits = 0;
            for (int i = 0; i < peaks.size(); i++) {
                bits += black(i, then) ? 1 << i : 0;
            }
            return bits;
        }

        int milk(int v, int then) {
            for (int i = 0; i < peaks.size(); i++) {
                if (unders.get(v)[i] && black(i, then)) {
                    return 0;
                }
            }
            return milks.get(v);
        }

        int milkOfAll(int then) {
            int sum = 0;
            for (int v = 0; v < milks.size(); v++) {
                sum += milk(v, then);
            }
            return sum;
        }

        int yields(int n) {
            int sum = 0;
            for (int y = year; y < year + n; y++) {
                sum += milkOfAll(y);
            }
            return sum;
        }

        int standing() {
            int n = 0;
            for (P p : peaks) {
                n += p.stands ? 1 : 0;
            }
            return n;
        }

        int draw(int n) {
            seed = seed * 1103515245 + 12345;
            return (seed >>> 16) % n;
        }

        boolean placeTaken(int place) {
            for (P p : peaks) {
                if (p.place == place) {
                    return true;
                }
            }
            return false;
        }

        int peak(int kind, int a, int place, int height) {
            P p = new P();
            p.kind = kind;
            p.a = a;
            p.place = place;
            p.height = height;
            peaks.add(p);
            look();
            return peaks.size() - 1;
        }

        int screen(int place, int height) {
            screens.add(new int[] {place, height});
            look();
            return screens.size() - 1;
        }

        int valley(int milk) {
            milks.add(milk);
            unders.add(new boolean[10]);
            return milks.size() - 1;
        }
    }

    World w = new World();
    World kept;
    /** null, an Integer, or a long[]. */
    Object[] shelves = new Object[8];
    int[] sorts = new int[8];
    int[] refusals = new int[8];
    int fault = -1;
    List<Integer> bodies = new ArrayList<>();

    private int no(int code, int more) {
        refusals[code]++;
        return -code - more;
    }

    private int no(int code) {
        return no(code, 0);
    }

    private boolean shelf(int s) {
        return s >= 0 && s <= 7;
    }

    private boolean has(int p) {
        return p >= 0 && p < w.peaks.size();
    }

    private boolean up(int p) {
        return has(p) && w.peaks.get(p).stands;
    }

    private boolean in(int v, int from, int to) {
        return from <= v && v <= to;
    }

    private long[] rowIn(int s) {
        return (long[]) shelves[s];
    }

    private int noRow(int s) {
        return !shelf(s) ? 1 : shelves[s] instanceof Integer ? 2 : shelves[s] == null ? 3 : 0;
    }

    int row(int s, int sort, int n) {
        if (!shelf(s)) {
            return no(1);
        }
        if (n < 0) {
            return no(4);
        }
        if (!in(sort, 0, 3)) {
            return no(6);
        }
        if (n > 160) {
            return no(7);
        }
        shelves[s] = new long[n];
        sorts[s] = sort;
        return 1;
    }

    int set(int s, int i, long v) {
        if (noRow(s) != 0) {
            return no(noRow(s));
        }
        if (!in(i, 0, rowIn(s).length - 1)) {
            return no(5);
        }
        int shift = 64 - (8 << sorts[s]);
        rowIn(s)[i] = v << shift >> shift;
        return 1;
    }

    int copy(int p, int q, int i, int j, int n) {
        if (!shelf(p) || !shelf(q)) {
            return no(1);
        }
        boolean peakIn = shelves[p] instanceof Integer || shelves[q] instanceof Integer;
        boolean rows = shelves[p] instanceof long[] && shelves[q] instanceof long[];
        if (peakIn || rows && sorts[p] != sorts[q]) {
            return no(2);
        }
        if (!rows) {
            return no(3);
        }
        if (n < 0) {
            return no(4);
        }
        if (i < 0 || j < 0 || (long) i + n > rowIn(p).length || (long) j + n > rowIn(q).length) {
            return no(5);
        }
        long[] ahead = rowIn(p).clone();
        for (int e = 0; e < n; e++) {
            rowIn(q)[j + e] = ahead[i + e];
        }
        return 1;
    }

    long element(int s, int i) {
        return shelf(s) && noRow(s) == 0 && in(i, 0, rowIn(s).length - 1) ? rowIn(s)[i] : 0;
    }

    int show(int s, int peak) {
        if (!shelf(s) || peak != -1 && !has(peak)) {
            return no(1);
        }
        shelves[s] = peak == -1 ? null : Integer.valueOf(peak);
        return peak == -1 ? 0 : 1;
    }

    int holds(int s) {
        if (!shelf(s) || shelves[s] == null) {
            return -1;
        }
        return shelves[s] instanceof Integer ? (Integer) shelves[s] : 100 + sorts[s];
    }

    private static final int[][] AND_ABOVE = {{0}, {1, 0}, {2, 0}, {3, 1, 0}, {4, 0}, {5, 2, 0}, {6, 4, 0}};

    int says(int s, int kind) {
        if (!shelf(s) || !in(kind, 0, 6)) {
            return no(1);
        }
        if (shelves[s] instanceof long[]) {
            return no(2);
        }
        if (shelves[s] == null) {
            return no(3);
        }
        int p = (Integer) shelves[s];
        boolean is = false;
        for (int above : AND_ABOVE[w.peaks.get(p).kind]) {
            is |= above == kind;
        }
        if (!is) {
            return no(2);
        }
        if (kind == 0) {
            return w.peaks.get(p).height;
        }
        if (kind == 4) {
            return w.peaks.get(p).a * 10 + 10;
        }
        return kind == 1 || kind == 3 ? w.black(p, w.year) ? 1 : 0 : w.mourns(p, 100);
    }

    int peak(int kind, int a, int place, int height) {
        if (!in(kind, 0, 6)) {
            return no(1);
        }
        if (!in(a, 0, 9) || !in(place, 0, 99) || !in(height, 1, 999) || w.placeTaken(place)) {
            return no(6);
        }
        return w.peaks.size() == 10 ? no(7) : w.peak(kind, a, place, height);
    }

    int screen(int place, int height) {
        if (!in(place, 0, 99) || !in(height, 1, 999)) {
            return no(6);
        }
        return w.screens.size() == 6 ? no(7) : w.screen(place, height);
    }

    int valley(int milk) {
        if (!in(milk, 0, 999)) {
            return no(6);
        }
        return w.milks.size() == 8 ? no(7) : w.valley(milk);
    }

    int under(int valley, int peak, boolean is) {
        if (!in(valley, 0, w.milks.size() - 1) || !has(peak)) {
            return no(1);
        }
        boolean was = w.unders.get(valley)[peak];
        w.unders.get(valley)[peak] = is;
        return was ? 1 : 0;
    }

    int peakOf(int peak, int what) {
        if (!has(peak) || !in(what, 0, 6)) {
            return no(5);
        }
        P p = w.peaks.get(peak);
        return new int[] {p.kind, p.a, p.place, p.height, p.stands ? 1 : 0, p.until, w.sees(peak)}[what];
    }

    int valleyOf(int valley, int what) {
        if (!in(valley, 0, w.milks.size() - 1) || !in(what, 0, 2)) {
            return no(5);
        }
        int bits = 0;
        for (int i = 0; i < 10; i++) {
            bits += w.unders.get(valley)[i] ? 1 << i : 0;
        }
        return new int[] {w.milks.get(valley), bits, w.milk(valley, w.year)}[what];
    }

    int range(int s) {
        if (noRow(s) != 0) {
            return no(noRow(s));
        }
        int[] letters = new int[rowIn(s).length];
        for (int i = 0; i < letters.length; i++) {
            letters[i] = (int) rowIn(s)[i];
        }
        World trial = w.copy();
        try {
            int items = new Text(letters, trial).items();
            w = trial;
            fault = -1;
            return items;
        } catch (Fault f) {
            fault = f.place;
            return no(6);
        }
    }

    /** A text, read by splitting it into words, numbers and signs. */
    static final class Text {
        final int[] letters;
        final World world;
        int at;

        Text(int[] letters, World world) {
            this.letters = letters;
            this.world = world;
        }

        int items() {
            int n = 1;
            item();
            while (at < letters.length) {
                sign(';');
                item();
                n++;
            }
            return n;
        }

        void sign(int sign) {
            if (at >= letters.length || letters[at] != sign) {
                throw new Fault(at);
            }
            at++;
        }

        int number(int least, int most) {
            int start = at;
            sign(' ');
            start = at;
            StringBuilder digits = new StringBuilder();
            while (at < letters.length && letters[at] >= '0' && letters[at] <= '9' && digits.length() < 3) {
                digits.append((char) letters[at++]);
            }
            if (digits.length() == 0) {
                throw new Fault(at);
            }
            int number = Integer.parseInt(digits.toString());
            if (number < least || number > most) {
                throw new Fault(start);
            }
            at = start + digits.length();
            place = start;
            return number;
        }

        int place;

        void item() {
            int start = at;
            String found = null;
            for (String word : new String[] {"peak", "screen", "valley", "under", "years", "take"}) {
                if (at < letters.length && letters[at] == word.charAt(0)) {
                    found = word;
                }
            }
            if (found == null) {
                throw new Fault(at);
            }
            for (char c : found.toCharArray()) {
                sign(c);
            }
            if (found.equals("peak")) {
                if (world.peaks.size() == 10) {
                    throw new Fault(start);
                }
                int kind = number(0, 6);
                int a = number(0, 9);
                int p = number(0, 99);
                if (world.placeTaken(p)) {
                    throw new Fault(place);
                }
                world.peak(kind, a, p, number(1, 999));
            } else if (found.equals("screen")) {
                if (world.screens.size() == 6) {
                    throw new Fault(start);
                }
                int p = number(0, 99);
                world.screen(p, number(1, 999));
            } else if (found.equals("valley")) {
                if (world.milks.size() == 8) {
                    throw new Fault(start);
                }
                world.valley(number(0, 999));
            } else if (found.equals("under")) {
                int v = number(0, world.milks.size() - 1);
                world.unders.get(v)[number(0, world.peaks.size() - 1)] = true;
            } else if (found.equals("years")) {
                world.year += number(1, 999);
            } else {
                int p = number(0, world.peaks.size() - 1);
                if (!world.peaks.get(p).stands) {
                    throw new Fault(place);
                }
                world.lose(p);
            }
        }
    }

    int fault() {
        return fault;
    }

    int since(int peak, int other) {
        if (!has(peak) || !has(other)) {
            return no(1, 10);
        }
        return w.since[peak][other] == null ? -1 : w.since[peak][other];
    }

    int black(int peak, int n) {
        if (!has(peak)) {
            return no(1);
        }
        return !in(n, 0, 999) ? no(6) : w.black(peak, w.year + n) ? 1 : 0;
    }

    int behind(int n, int what) {
        if (!in(what, 0, 1)) {
            return no(5);
        }
        if (!in(n, 0, 999)) {
            return no(6);
        }
        return what == 0 ? w.blacks(w.year + n) : w.milkOfAll(w.year + n);
    }

    int white() {
        for (int n = 0; n <= 999; n++) {
            if (w.blacks(w.year + n) == 0) {
                return n;
            }
        }
        return -1;
    }

    int yields(int n) {
        return in(n, 0, 200) ? w.yields(n) : no(6);
    }

    int grief(int peak) {
        if (!up(peak)) {
            return no(has(peak) ? 6 : 1);
        }
        return w.copy().lose(peak);
    }

    int least() {
        int best = -1;
        for (int p = w.peaks.size() - 1; p >= 0; p--) {
            if (up(p) && (best == -1 || w.copy().lose(p) <= w.copy().lose(best))) {
                best = p;
            }
        }
        return best;
    }

    private int[] bestRow;
    private int bestGrief;

    private void rows(World world, int k, int[] row, int n, int grief) {
        if (n == k) {
            if (bestRow == null || grief < bestGrief) {
                bestRow = Arrays.copyOf(row, k);
                bestGrief = grief;
            }
            return;
        }
        for (int p = 0; p < world.peaks.size(); p++) {
            if (world.peaks.get(p).stands) {
                World next = world.copy();
                row[n] = p;
                rows(next, k, row, n + 1, grief + next.lose(p));
            }
        }
    }

    int order(int k, int i) {
        if (!in(k, 1, 3) || w.standing() < k) {
            return no(6);
        }
        if (!in(i, -1, k - 1)) {
            return no(5);
        }
        bestRow = null;
        rows(w, k, new int[3], 0, 0);
        return i == -1 ? bestGrief : bestRow[i];
    }

    int cost(int peak) {
        if (!up(peak)) {
            return no(has(peak) ? 6 : 1, 1000000);
        }
        World other = w.copy();
        other.lose(peak);
        return w.yields(100) - other.yields(100);
    }

    private int leastScreen(int peak, int other, int place) {
        for (int h = 1; h <= 999; h++) {
            World trial = w.copy();
            trial.screens.add(new int[] {place, h});
            if (!trial.looks(peak, other)) {
                return h;
            }
        }
        return -1;
    }

    int screened(int peak, int other, int place) {
        if (!has(peak) || !has(other)) {
            return no(1, 10);
        }
        if (w.since[peak][other] == null || !in(place, 0, 99)) {
            return no(6, 10);
        }
        return leastScreen(peak, other, place);
    }

    int hide(int peak, int other) {
        if (!has(peak) || !has(other)) {
            return no(1, 10);
        }
        if (w.since[peak][other] == null) {
            return no(6, 10);
        }
        int best = -1;
        int height = 1000;
        for (int place = 0; place < 100; place++) {
            boolean free = true;
            for (P p : w.peaks) {
                free &= !p.stands || p.place != place;
            }
            int from = Math.min(w.peaks.get(peak).place, w.peaks.get(other).place);
            int to = Math.max(w.peaks.get(peak).place, w.peaks.get(other).place);
            int h = free && place > from && place < to ? leastScreen(peak, other, place) : -1;
            if (h != -1 && h < height) {
                best = place;
                height = h;
            }
        }
        return best;
    }

    int fits(int s) {
        if (noRow(s) != 0) {
            return no(noRow(s));
        }
        if (rowIn(s).length < w.peaks.size()) {
            return no(5);
        }
        int bits = 0;
        for (int p = 0; p < w.peaks.size(); p++) {
            if (up(p)) {
                World trial = w.copy();
                trial.lose(p);
                boolean fit = true;
                for (int q = 0; q < w.peaks.size(); q++) {
                    int told = (int) rowIn(s)[q];
                    fit &= !trial.peaks.get(q).stands || told == -1 || told == trial.peaks.get(q).until;
                }
                bits += fit ? 1 << p : 0;
            }
        }
        return bits;
    }

    int fires(int set) {
        if (set < 0 || set >= 1 << w.peaks.size()) {
            return no(6);
        }
        for (int n = 0; n <= 10; n++) {
            for (int fire = 0; fire < 1 << w.peaks.size(); fire++) {
                boolean good = Integer.bitCount(fire) == n;
                for (int p = 0; p < w.peaks.size(); p++) {
                    good &= (fire >> p & 1) == 0 || up(p);
                    good &= (set >> p & 1) == 0 || !up(p) || ((w.sees(p) | 1 << p) & fire) != 0;
                }
                if (good) {
                    return fire;
                }
            }
        }
        return -99;
    }

    int send() {
        int best = -1;
        int most = -1;
        for (int p = 0; p < w.peaks.size(); p++) {
            int n = 0;
            for (int q = 0; q < w.peaks.size(); q++) {
                n += w.since[q][p] != null ? 1 : 0;
            }
            if (up(p) && n > most) {
                best = p;
                most = n;
            }
        }
        return best;
    }

    int chain(int peak, int other) {
        if (!has(peak) || !has(other)) {
            return no(1, 10);
        }
        if (peak == other || !up(peak) || !up(other)) {
            return no(6, 10);
        }
        int n = w.peaks.size();
        int[][] far = new int[n][n];
        for (int i = 0; i < n; i++) {
            for (int j = 0; j < n; j++) {
                far[i][j] = w.since[j][i] != null ? 1 : 1000;
            }
        }
        for (int m = 0; m < n; m++) {
            for (int i = 0; i < n; i++) {
                for (int j = 0; j < n; j++) {
                    far[i][j] = Math.min(far[i][j], far[i][m] + far[m][j]);
                }
            }
        }
        return far[peak][other] >= 1000 ? -1 : far[peak][other] - 1;
    }

    int lacks(int what) {
        if (!in(what, 0, 1) || what == 0 && w.milks.isEmpty() || what == 1 && w.peaks.isEmpty()) {
            return no(5);
        }
        int best = -1;
        int most = -1;
        int all = what == 0 ? w.milks.size() : w.peaks.size();
        for (int i = 0; i < all; i++) {
            int n = 0;
            if (what == 0) {
                for (int y = 0; y < 100; y++) {
                    n += w.milk(i, w.year + y) == 0 ? 1 : 0;
                }
            } else {
                World trial = w.copy();
                for (boolean[] u : trial.unders) {
                    u[i] = false;
                }
                n = trial.yields(100);
            }
            if (n > most) {
                best = i;
                most = n;
            }
        }
        return best;
    }

    int spared(int peak, int v) {
        if (!has(peak)) {
            return no(1, 10);
        }
        if (v < 0 || !up(peak)) {
            return no(6, 10);
        }
        for (int wait = 0; wait <= 99; wait++) {
            World trial = w.copy();
            trial.year += wait;
            if (trial.lose(peak) <= v) {
                return wait;
            }
        }
        return -1;
    }

    private int noTakings(int s, int n, boolean what) {
        if (noRow(s) != 0) {
            return noRow(s);
        }
        if (n < 0) {
            return 4;
        }
        if (n > rowIn(s).length || !what) {
            return 5;
        }
        return n > 20 ? 6 : 0;
    }

    private int grief;

    /** The first that can't be, or -1; the others ahead of it come to pass in the world. */
    private int play(World world, int s, int n) {
        grief = 0;
        for (int i = 0; i < n; i++) {
            int taking = (int) rowIn(s)[i];
            if (taking >= 0 && taking < world.peaks.size() && world.peaks.get(taking).stands) {
                grief += world.lose(taking);
            } else if (taking >= 101 && taking <= 199) {
                world.year += taking - 100;
            } else {
                return i;
            }
        }
        return -1;
    }

    int judge(int s, int n) {
        int code = noTakings(s, n, true);
        return code != 0 ? no(code, 10) : play(w.copy(), s, n);
    }

    int told(int s, int n, int what) {
        int code = noTakings(s, n, in(what, 0, 2));
        if (code != 0) {
            return no(code);
        }
        World trial = w.copy();
        if (play(trial, s, n) != -1) {
            return no(6);
        }
        return new int[] {grief, trial.blacks(trial.year), trial.year}[what];
    }

    int done(int s, int n) {
        int code = noTakings(s, n, true);
        if (code != 0) {
            return no(code);
        }
        World trial = w.copy();
        if (play(trial, s, n) != -1) {
            return no(6);
        }
        w = trial;
        return w.year;
    }

    int take(int peak) {
        if (!up(peak)) {
            return no(has(peak) ? 6 : 1);
        }
        return w.lose(peak);
    }

    int years(int n) {
        return in(n, 1, 999) ? w.year += n : no(6);
    }

    int ages(int n) {
        if (!in(n, 1, 200)) {
            return no(6);
        }
        int lost = 0;
        for (int y = 0; y < n; y++) {
            if (w.draw(20) == 0) {
                List<Integer> up = new ArrayList<>();
                for (int p = 0; p < w.peaks.size(); p++) {
                    if (up(p)) {
                        up.add(p);
                    }
                }
                if (!up.isEmpty()) {
                    w.lose(up.get(w.draw(up.size())));
                    lost++;
                }
            }
            w.year++;
        }
        return lost;
    }

    int seed(int v) {
        int was = w.seed;
        w.seed = v;
        return was;
    }

    int act(int peak, int move, int x) {
        bodies.clear();
        if (!has(peak) || !in(move, 0, 2)) {
            return 0;
        }
        return move(peak, w.peaks.get(peak).kind, move, x);
    }

    private int move(int peak, int kind, int move, int x) {
        int m = peak;
        int k = w.peaks.get(peak).a;
        int own = w.peaks.get(peak).kind;
        int above = AND_ABOVE[kind].length > 1 ? AND_ABOVE[kind][1] : 0;
        switch (10 * kind + move) {
            case 0:
                bodies.add(10);
                return x + m;
            case 1:
                bodies.add(11);
                return move(peak, own, 0, x) * 2;
            case 2:
                bodies.add(12);
                return move(peak, own, 1, x) ^ move(peak, own, 0, x - k);
            case 10:
                bodies.add(20);
                return move(peak, above, 0, x) + k;
            case 21:
                bodies.add(30);
                return move(peak, above, 1, x) * 3;
            case 31:
                bodies.add(40);
                return move(peak, above, 1, x + 1);
            case 42:
                bodies.add(50);
                return -move(peak, above, 2, x);
            case 40:
                bodies.add(51);
                return move(peak, above, 0, x) - m;
            case 52:
                bodies.add(60);
                return move(peak, above, 2, x) ^ 5;
            case 60:
                bodies.add(70);
                return move(peak, above, 0, x) * 2;
            case 61:
                bodies.add(71);
                return move(peak, above, 1, x - k);
            default:
                return move(peak, above, move, x);
        }
    }

    int trace(int i) {
        return in(i, 0, Math.min(bodies.size(), 20) - 1) ? bodies.get(i) : -1;
    }

    int image() {
        kept = w.copy();
        return w.peaks.size();
    }

    int restore() {
        if (kept == null) {
            return no(6);
        }
        w = kept.copy();
        for (int s = 0; s < 8; s++) {
            if (shelves[s] instanceof Integer && !has((Integer) shelves[s])) {
                shelves[s] = null;
            }
        }
        return w.peaks.size();
    }

    int status(int what) {
        if (in(what, 11, 17)) {
            return refusals[what - 10];
        }
        if (!in(what, 0, 7)) {
            return -1;
        }
        return new int[] {w.peaks.size(), w.standing(), w.screens.size(), w.milks.size(), w.year,
            Integer.bitCount(w.blacks(w.year)), w.seed, bodies.size()}[what];
    }
}

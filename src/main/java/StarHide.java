import java.util.Arrays;

/**
 * Works out what hid a star from what watchers at many sites tell.
 *
 * All lengths are whole numbers but an ellipse's half width at a height. That one is only ever
 * compared with whole numbers, so it is kept doubled: an even number if it is whole, and the odd
 * number between its two neighbours if it is not. Every comparison stays exact in ints.
 */
public final class StarHide {

    public static final int NONE = -1;

    private static final int NO_AHEAD = -1000;
    private static final int NO_PLACE = -1000000;

    private static final int MOST_SITES = 16;
    private static final int MOST_SPEED = 10;
    private static final int MOST_AHEAD = 50;
    private static final int MOST_TICK = 1000;
    private static final int MOST_HEIGHT = 2000;
    private static final int MOST_ALONG = 5000;
    private static final int MOST_SLACK = 1000;

    private static final int NO_REPORT = 0;
    private static final int CHORD = 1;
    private static final int MISS = 2;
    private static final int CLOUD = 3;

    private final Sites sites;
    private final Net mesh;
    private final Search search;
    private final Hull hull;
    private final Dips dips;
    private final Planner planner;

    public StarHide() {
        sites = new Sites();
        mesh = new Net();
        search = new Search(sites, mesh);
        hull = new Hull(sites);
        dips = new Dips(sites);
        planner = new Planner(sites);
    }

    public int speed(int v) {
        if (!within(v, 1, MOST_SPEED)) {
            return NONE;
        }
        int before = sites.pace;
        sites.pace = v;
        search.forgetAll();
        hull.forget();
        return before;
    }

    public int site(int y, int x) {
        if (!isHeight(y) || !within(x, -MOST_ALONG, MOST_ALONG)) {
            return NONE;
        }
        return sites.add(y, x);
    }

    public int ahead(int site, int ticks) {
        Site there = sites.at(site);
        if (there == null || !within(ticks, -MOST_AHEAD, MOST_AHEAD)) {
            return NO_AHEAD;
        }
        int before = there.lead;
        there.lead = ticks;
        changed(site);
        return before;
    }

    public boolean chord(int site, int a, int b, int c, int d) {
        Site there = sites.at(site);
        if (there == null || !isTick(a) || !isTick(d) || a > b || b > c || c > d) {
            return false;
        }
        there.tell(CHORD, a, b, c, d);
        changed(site);
        return true;
    }

    public boolean miss(int site, int a, int b) {
        Site there = sites.at(site);
        if (there == null || !isTick(a) || !isTick(b) || a > b) {
            return false;
        }
        there.tell(MISS, a, b, 0, 0);
        changed(site);
        return true;
    }

    public boolean cloud(int site) {
        Site there = sites.at(site);
        if (there == null) {
            return false;
        }
        there.tell(CLOUD, 0, 0, 0, 0);
        changed(site);
        return true;
    }

    public boolean unsay(int site) {
        Site there = sites.at(site);
        if (there == null || there.kind == NO_REPORT) {
            return false;
        }
        there.tell(NO_REPORT, 0, 0, 0, 0);
        changed(site);
        return true;
    }

    public int place(int site, int tick) {
        Site there = sites.at(site);
        return there == null || !isTick(tick) ? NO_PLACE : there.placeOf(sites.pace, tick);
    }

    // ---- figures

    public boolean net(int row, int from, int by, int n) {
        if (!mesh.put(row, from, by, n)) {
            return false;
        }
        if (row != Net.X) {
            sites.forgetWidths();
        }
        search.forgetAll();
        return true;
    }

    public int figures() {
        return mesh.total;
    }

    public int figure(int f, int what) {
        return mesh.has(f) && Net.isRow(what) ? mesh.valueOf(f, what) : NO_PLACE;
    }

    public int agrees(int f, int site) {
        if (!mesh.has(f) || sites.at(site) == null) {
            return NONE;
        }
        return search.isAgainst(f, site) ? 0 : 1;
    }

    public int fitting() {
        return search.howManyFit();
    }

    public int fits(int k) {
        return search.nthThatFits(k);
    }

    public int size(boolean greatest) {
        return greatest ? search.greatestSize() : search.leastSize();
    }

    public int bad(int what) {
        if (what == 0) {
            return search.fewestFalse();
        }
        return what == 1 ? search.figureOfFewest() : NONE;
    }

    public int isBad(int site) {
        if (sites.at(site) == null) {
            return NONE;
        }
        return search.isAgainst(search.figureOfFewest(), site) ? 1 : 0;
    }

    public int clock(int site, int what) {
        return sites.at(site) == null ? NO_AHEAD : search.clockOf(site, what);
    }

    // ---- what is inside

    public int inside(int what) {
        if (what == 0) {
            return hull.howMany();
        }
        return what == 1 ? hull.areaTwice() : NONE;
    }

    public int corner(int k, int what) {
        if (k < 0 || k >= hull.howMany()) {
            return NO_PLACE;
        }
        if (what == 0) {
            return hull.alongOf(k);
        }
        return what == 1 ? hull.heightOf(k) : NO_PLACE;
    }

    public int quarrels(int site) {
        Site there = sites.at(site);
        if (there == null || there.kind != MISS) {
            return NONE;
        }
        int first = there.placeOf(sites.pace, there.a);
        int last = there.placeOf(sites.pace, there.b);
        return hull.touches(there.y, first, last) ? 1 : 0;
    }

    // ---- rings, plans

    public int dip(int site, int a, int b) {
        if (sites.at(site) == null || !isTick(a) || !isTick(b) || a >= b) {
            return NONE;
        }
        return dips.add(site, a, b);
    }

    public int even(int miss) {
        if (!within(miss, 0, MOST_SLACK)) {
            return NONE;
        }
        int before = dips.slack;
        dips.slack = miss;
        return before;
    }

    public int calm() {
        int before = dips.count;
        dips.count = 0;
        return before;
    }

    public long ring(int f, int what) {
        if (!mesh.has(f)) {
            return NONE;
        }
        int x = mesh.valueOf(f, Net.X);
        int y = mesh.valueOf(f, Net.Y);
        if (what == 0) {
            return dips.howManyEven(x);
        }
        if (what != 1 && what != 2 || dips.count == 0 || dips.howManyEven(x) < dips.count) {
            return NONE;
        }
        return dips.square(x, y, what == 2);
    }

    public int plan(int n, int from, int to) {
        if (n < 1 || !isHeight(from) || !isHeight(to) || from >= to) {
            return NONE;
        }
        return planner.choose(n, from, to);
    }

    public int planned(int i) {
        return planner.chosenAt(i);
    }

    public int all(int what) {
        switch (what) {
            case 0:
                return sites.count;
            case 1:
                return sites.howMany(CHORD);
            case 2:
                return sites.howMany(MISS);
            case 3:
                return sites.howMany(CLOUD);
            case 4:
                return dips.count;
            default:
                return NONE;
        }
    }

    private void changed(int site) {
        search.forget(site);
        hull.forget();
    }

    private static boolean isTick(int tick) {
        return within(tick, -MOST_TICK, MOST_TICK);
    }

    private static boolean isHeight(int y) {
        return within(y, -MOST_HEIGHT, MOST_HEIGHT);
    }

    private static boolean within(int value, int least, int greatest) {
        return value >= least && value <= greatest;
    }

    /** One watcher's place, clock and report. */
    private static final class Site {
        final int y;
        final int x;
        /** For each shape of the net the doubled half width at this height. */
        final int[] widths;
        boolean widthsKnown;
        int lead;
        int kind;
        int a;
        int b;
        int c;
        int d;

        Site(int y, int x) {
            this.y = y;
            this.x = x;
            widths = new int[Net.MOST_SHAPES];
        }

        void tell(int newKind, int first, int second, int third, int fourth) {
            kind = newKind;
            a = first;
            b = second;
            c = third;
            d = fourth;
        }

        /** Whether there are figures that could not agree with the report. */
        boolean isChoosy() {
            return kind == CHORD || kind == MISS;
        }

        int placeOf(int pace, int tick) {
            return pace * (tick - lead) - x;
        }

        /*
         * An end of an ellipse moves with its middle, and a clock that is s ahead moves all places
         * by the same way. So whether a figure agrees hangs on m = 2 (its middle + pace s) alone:
         * with a chord from lowest up to highest, with a miss outside of what is between them.
         * Of a figure that goes nowhere here no m is between, and none is from 1 up to 0.
         */

        int lowest(int pace, int wide) {
            if (wide == Net.NOWHERE) {
                return 1;
            }
            int first = 2 * (pace * a - x);
            if (kind == MISS) {
                return first - wide;
            }
            return Math.max(first + wide, 2 * (pace * c - x) - wide);
        }

        int highest(int pace, int wide) {
            if (wide == Net.NOWHERE) {
                return 0;
            }
            int second = 2 * (pace * b - x);
            if (kind == MISS) {
                return second + wide;
            }
            return Math.min(second + wide, 2 * (pace * d - x) - wide);
        }

        boolean allows(int m, int lowest, int highest) {
            if (kind == CHORD) {
                return lowest <= m && m <= highest;
            }
            return kind != MISS || m <= lowest || m >= highest;
        }
    }

    /** All sites, and the speed that they share. */
    private static final class Sites {
        private final Site[] list = new Site[MOST_SITES];
        int count;
        int pace = 5;

        Site at(int number) {
            return number < 0 || number >= count || number >= MOST_SITES ? null : list[number];
        }

        int add(int y, int x) {
            if (count >= MOST_SITES || isTaken(y)) {
                return NONE;
            }
            list[count] = new Site(y, x);
            count++;
            return count - 1;
        }

        int howMany(int kind) {
            int found = 0;
            for (int i = 0; i < count; i++) {
                Site one = at(i);
                if (one != null && one.kind == kind) {
                    found++;
                }
            }
            return found;
        }

        void forgetWidths() {
            for (int i = 0; i < count; i++) {
                Site one = at(i);
                if (one != null) {
                    one.widthsKnown = false;
                }
            }
        }

        private boolean isTaken(int y) {
            for (int i = 0; i < count; i++) {
                Site one = at(i);
                if (one != null && one.y == y) {
                    return true;
                }
            }
            return false;
        }
    }

    /** The net's four rows. A shape is a figure without its x: its number is the figure's rest. */
    private static final class Net {
        static final int X = 0;
        static final int Y = 1;
        static final int W = 2;
        static final int H = 3;
        static final int ROWS = 4;
        static final int MOST_IN_ROW = 8;
        static final int MOST_SHAPES = 512;
        static final int MOST_FIGURES = 4096;
        static final int NOWHERE = -1;

        private static final int MOST_BY = 1000;
        private static final int MOST_X = 15000;
        private static final int MOST_WIDTH = 2000;
        /** The highest bit that a half width of 2000 can have. */
        private static final int TOP_BIT = 1024;

        private final int[] first = new int[ROWS];
        private final int[] step = new int[ROWS];
        private final int[] many = new int[ROWS];
        /** How many shapes and figures there are: asked for so often that they are kept. */
        int shapes = 1;
        int total = 1;

        Net() {
            Arrays.fill(step, 1);
            Arrays.fill(many, 1);
            first[W] = 100;
            first[H] = 100;
        }

        static boolean isRow(int row) {
            return row >= 0 && row < ROWS;
        }

        boolean put(int row, int from, int by, int n) {
            if (!isRow(row) || !within(by, 1, MOST_BY) || !within(n, 1, MOST_IN_ROW)
                    || !isFirst(row, from)) {
                return false;
            }
            if (row >= W && from + by * (n - 1) > MOST_WIDTH) {
                return false;
            }
            first[row] = from;
            step[row] = by;
            many[row] = n;
            shapes = many[Y] * many[W] * many[H];
            total = many[X] * shapes;
            return true;
        }

        boolean has(int f) {
            return f >= 0 && f < total && f < MOST_FIGURES;
        }

        int inRow(int row) {
            return row < 0 || row >= ROWS ? 0 : many[row];
        }

        int nth(int row, int k) {
            return row < 0 || row >= ROWS ? 0 : first[row] + step[row] * k;
        }

        int valueOf(int f, int row) {
            int rest = f;
            for (int later = H; later > row; later--) {
                rest /= Math.max(1, inRow(later));
            }
            return nth(row, rest % Math.max(1, inRow(row)));
        }

        void measure(Site site) {
            if (site.widthsKnown) {
                return;
            }
            int shape = 0;
            for (int i = 0; i < inRow(Y); i++) {
                int away = site.y - nth(Y, i);
                for (int j = 0; j < inRow(W); j++) {
                    for (int k = 0; k < inRow(H) && shape < MOST_SHAPES; k++) {
                        site.widths[shape] = widthTwice(away, nth(W, j), nth(H, k));
                        shape++;
                    }
                }
            }
            site.widthsKnown = true;
        }

        /** The half width at a height so far away, doubled: odd if it is between whole numbers. */
        private static int widthTwice(int away, int w, int h) {
            if (away >= h || -away >= h) {
                return NOWHERE;
            }
            long down = (long) h * h;
            long square = (long) w * w * (down - (long) away * away);
            int e = 0;
            for (int bit = TOP_BIT; bit > 0; bit >>= 1) {
                long more = e + bit;
                if (more * more * down <= square) {
                    e += bit;
                }
            }
            return (long) e * e * down == square ? 2 * e : 2 * e + 1;
        }

        private static boolean isFirst(int row, int from) {
            if (row == X) {
                return within(from, -MOST_X, MOST_X);
            }
            return row == Y ? isHeight(from) : within(from, 1, MOST_WIDTH);
        }
    }

    /** Which figures agree with which reports; kept until a report or the net changes. */
    private static final class Search {
        private static final int ALL_STALE = -1;

        private final Sites sites;
        private final Net mesh;
        /** For each figure a bit for every site with whose report it does not agree. */
        private final int[] against = new int[Net.MOST_FIGURES];
        /** Bits of the sites whose bits in against are out of date. */
        private int stale = ALL_STALE;
        private int fitCount;
        private int smallest;
        private int largest;
        private int fewest;
        private int fewestBy;
        private final Clocks clocks = new Clocks();
        private int clocksOf = NONE;

        Search(Sites sites, Net mesh) {
            this.sites = sites;
            this.mesh = mesh;
        }

        void forget(int site) {
            stale |= 1 << site;
            clocksOf = NONE;
        }

        void forgetAll() {
            stale = ALL_STALE;
            clocksOf = NONE;
        }

        boolean isAgainst(int f, int site) {
            refresh();
            return f >= 0 && f < Net.MOST_FIGURES && (against[f] >> site & 1) == 1;
        }

        int howManyFit() {
            refresh();
            return fitCount;
        }

        int leastSize() {
            refresh();
            return smallest;
        }

        int greatestSize() {
            refresh();
            return largest;
        }

        int fewestFalse() {
            refresh();
            return fewest;
        }

        int figureOfFewest() {
            refresh();
            return fewestBy;
        }

        int nthThatFits(int k) {
            refresh();
            if (k < 0 || k >= fitCount) {
                return NONE;
            }
            int left = k;
            for (int f = 0; f < mesh.total && f < Net.MOST_FIGURES; f++) {
                if (against[f] == 0) {
                    if (left == 0) {
                        return f;
                    }
                    left--;
                }
            }
            return NONE;
        }

        int clockOf(int number, int what) {
            if (clocksOf != number) {
                refresh();
                findClocks(number);
                clocksOf = number;
            }
            if (what == 0) {
                return clocks.count;
            }
            if (what != 1 && what != 2 || clocks.count == 0) {
                return NO_AHEAD;
            }
            return what == 1 ? clocks.least : clocks.greatest;
        }

        private void refresh() {
            if (stale == 0) {
                return;
            }
            for (int i = 0; i < sites.count; i++) {
                Site site = sites.at(i);
                if (site != null && (stale >> i & 1) == 1) {
                    judge(site, 1 << i);
                }
            }
            stale = 0;
            sumUp();
        }

        private void judge(Site site, int bit) {
            if (!site.isChoosy()) {
                clearAll(bit);
                return;
            }
            mesh.measure(site);
            for (int shape = 0; shape < mesh.shapes && shape < Net.MOST_SHAPES; shape++) {
                judgeShape(site, bit, shape, site.widths[shape]);
            }
        }

        private void judgeShape(Site site, int bit, int shape, int wide) {
            int lowest = site.lowest(sites.pace, wide);
            int highest = site.highest(sites.pace, wide);
            int m = 2 * (mesh.nth(Net.X, 0) + sites.pace * site.lead);
            int step = 2 * (mesh.nth(Net.X, 1) - mesh.nth(Net.X, 0));
            int onward = Math.max(1, mesh.shapes);
            for (int f = shape; f < mesh.total && f < Net.MOST_FIGURES; f += onward) {
                if (site.allows(m, lowest, highest)) {
                    against[f] &= ~bit;
                } else {
                    against[f] |= bit;
                }
                m += step;
            }
        }

        private void clearAll(int bit) {
            for (int f = 0; f < mesh.total && f < Net.MOST_FIGURES; f++) {
                against[f] &= ~bit;
            }
        }

        private void sumUp() {
            fitCount = 0;
            smallest = NONE;
            largest = NONE;
            fewest = MOST_SITES + 1;
            fewestBy = NONE;
            for (int f = 0; f < mesh.total && f < Net.MOST_FIGURES; f++) {
                int wrong = Integer.bitCount(against[f]);
                if (wrong == 0) {
                    addFitting(f);
                }
                if (wrong < fewest) {
                    fewest = wrong;
                    fewestBy = f;
                }
            }
        }

        private void addFitting(int f) {
            int extent = mesh.valueOf(f, Net.W) * mesh.valueOf(f, Net.H);
            smallest = fitCount == 0 ? extent : Math.min(smallest, extent);
            largest = Math.max(largest, extent);
            fitCount++;
        }

        private void findClocks(int number) {
            clocks.clear();
            Site site = sites.at(number);
            if (site == null) {
                return;
            }
            mesh.measure(site);
            int shapes = Math.max(1, mesh.shapes);
            for (int f = 0; f < mesh.total && f < Net.MOST_FIGURES; f++) {
                int shape = f % shapes;
                if ((against[f] & ~(1 << number)) == 0 && shape < Net.MOST_SHAPES) {
                    int x = mesh.nth(Net.X, f / shapes);
                    clocks.addOf(site, sites.pace, site.widths[shape], x);
                }
            }
            clocks.sumUp();
        }
    }

    /** The clocks of one site: ranges are put in one by one, then counted together. */
    private static final class Clocks {
        /** At each clock how many more ranges hold it than hold the one before. */
        private final int[] rises = new int[2 * MOST_AHEAD + 2];
        int count;
        int least;
        int greatest;

        void clear() {
            Arrays.fill(rises, 0);
            count = 0;
            least = NO_AHEAD;
            greatest = NO_AHEAD;
        }

        void addOf(Site site, int pace, int wide, int x) {
            int step = 2 * Math.max(1, pace);
            int lowest = site.lowest(pace, wide) - 2 * x;
            int highest = site.highest(pace, wide) - 2 * x;
            if (site.kind == CHORD) {
                addRange(roundUp(lowest, step), Math.floorDiv(highest, step));
            } else if (site.kind == MISS) {
                addRange(-MOST_AHEAD, Math.floorDiv(lowest, step));
                addRange(roundUp(highest, step), MOST_AHEAD);
            } else {
                addRange(-MOST_AHEAD, MOST_AHEAD);
            }
        }

        void sumUp() {
            int holding = 0;
            for (int s = -MOST_AHEAD; s <= MOST_AHEAD; s++) {
                holding += rises[s + MOST_AHEAD];
                if (holding > 0) {
                    least = count == 0 ? s : least;
                    greatest = s;
                    count++;
                }
            }
        }

        private void addRange(int from, int to) {
            int first = Math.max(from, -MOST_AHEAD);
            int last = Math.min(to, MOST_AHEAD);
            if (first <= last) {
                rises[first + MOST_AHEAD]++;
                rises[last + MOST_AHEAD + 1]--;
            }
        }

        private static int roundUp(int value, int step) {
            return -Math.floorDiv(-value, Math.max(1, step));
        }
    }

    /** What is surely inside: the smallest figure without dents that has every chord's b and c. */
    private static final class Hull {
        private static final int MOST_POINTS = 2 * MOST_SITES;

        private final Sites sites;
        private final int[] along = new int[MOST_POINTS];
        private final int[] height = new int[MOST_POINTS];
        private int points;
        /** The numbers of the points that are corners, in their order. */
        private final int[] corners = new int[MOST_POINTS];
        private int count;
        private boolean known;

        Hull(Sites sites) {
            this.sites = sites;
        }

        void forget() {
            known = false;
        }

        int howMany() {
            refresh();
            return count;
        }

        int areaTwice() {
            refresh();
            long area = 0;
            for (int k = 0; k < count; k++) {
                long x = alongOf(k);
                long y = heightOf(k);
                area += x * heightOf(after(k)) - y * alongOf(after(k));
            }
            return (int) area;
        }

        int alongOf(int k) {
            return k < 0 || k >= count ? NO_PLACE : along[corners[k]];
        }

        int heightOf(int k) {
            return k < 0 || k >= count ? NO_PLACE : height[corners[k]];
        }

        /**
         * Whether some place from first up to last at this height is inside. No corner is at the
         * height of a miss, for sites are of unlike heights: so either two borders cross it or none.
         */
        boolean touches(int y, int first, int last) {
            refresh();
            int crossed = 0;
            for (int k = 0; k < count; k++) {
                int next = after(k);
                if (heightOf(k) < y && y < heightOf(next)) {
                    if (sideOf(k, next, first, y) < 0) {
                        return false;
                    }
                    crossed++;
                } else if (heightOf(k) > y && y > heightOf(next)) {
                    if (sideOf(k, next, last, y) < 0) {
                        return false;
                    }
                    crossed++;
                }
            }
            return crossed > 0;
        }

        private int after(int k) {
            return k + 1 < count ? k + 1 : 0;
        }

        /** Above 0 if a point is at the left of the way from corner k to another corner. */
        private long sideOf(int k, int next, int x, int y) {
            return turn(corners[k], corners[next], x, y);
        }

        private long turn(int from, int to, int x, int y) {
            return ((long) along[to] - along[from]) * (y - height[from])
                    - ((long) height[to] - height[from]) * (x - along[from]);
        }

        private void refresh() {
            if (known) {
                return;
            }
            known = true;
            gather();
            count = 0;
            if (points == 0) {
                return;
            }
            int start = lowestPoint();
            int at = start;
            for (int i = 0; i < points; i++) {
                corners[count] = at;
                count++;
                at = nextCorner(at);
                if (at == start) {
                    return;
                }
            }
        }

        private void gather() {
            points = 0;
            for (int i = 0; i < sites.count; i++) {
                Site site = sites.at(i);
                if (site != null && site.kind == CHORD) {
                    addPoint(site.placeOf(sites.pace, site.b), site.y);
                    // The same point twice would count as two corners.
                    if (site.b != site.c) {
                        addPoint(site.placeOf(sites.pace, site.c), site.y);
                    }
                }
            }
        }

        private void addPoint(int x, int y) {
            if (points < MOST_POINTS) {
                along[points] = x;
                height[points] = y;
                points++;
            }
        }

        private int lowestPoint() {
            int best = 0;
            for (int i = 1; i < points; i++) {
                if (height[i] < height[best]
                        || height[i] == height[best] && along[i] < along[best]) {
                    best = i;
                }
            }
            return best;
        }

        /** The point with none at the right of the way to it, the farthest of those in one line. */
        private int nextCorner(int at) {
            int best = at;
            for (int i = 0; i < points; i++) {
                if (i != at && (best == at || isFurtherRight(at, best, i))) {
                    best = i;
                }
            }
            return best;
        }

        private boolean isFurtherRight(int at, int best, int other) {
            long turn = turn(at, best, along[other], height[other]);
            return turn < 0 || turn == 0 && squareBetween(at, other) > squareBetween(at, best);
        }

        private long squareBetween(int one, int other) {
            long x = along[one] - along[other];
            long y = height[one] - height[other];
            return x * x + y * y;
        }
    }

    /** Pairs of dips, and how uneven they may be. */
    private static final class Dips {
        private static final int MOST_DIPS = 10;

        private final Sites sites;
        private final int[] where = new int[MOST_DIPS];
        private final int[] start = new int[MOST_DIPS];
        private final int[] end = new int[MOST_DIPS];
        int count;
        int slack = 10;

        Dips(Sites sites) {
            this.sites = sites;
        }

        int add(int site, int a, int b) {
            if (count >= MOST_DIPS) {
                return NONE;
            }
            where[count] = site;
            start[count] = a;
            end[count] = b;
            count++;
            return count;
        }

        int howManyEven(int x) {
            int found = 0;
            for (int i = 0; i < count; i++) {
                Site site = sites.at(where[i]);
                if (site != null) {
                    int p = site.placeOf(sites.pace, start[i]);
                    int q = site.placeOf(sites.pace, end[i]);
                    if (Math.abs(p + q - 2 * x) <= slack) {
                        found++;
                    }
                }
            }
            return found;
        }

        /** The least or greatest square of a distance from x, y. */
        long square(int x, int y, boolean greatest) {
            long best = NONE;
            for (int i = 0; i < count; i++) {
                Site site = sites.at(where[i]);
                if (site != null) {
                    long up = (long) (site.y - y) * (site.y - y);
                    long p = site.placeOf(sites.pace, start[i]) - x;
                    long q = site.placeOf(sites.pace, end[i]) - x;
                    long one = greatest ? Math.max(p * p, q * q) : Math.min(p * p, q * q);
                    if (best == NONE) {
                        best = up + one;
                    } else {
                        best = greatest ? Math.max(best, up + one) : Math.min(best, up + one);
                    }
                }
            }
            return best;
        }
    }

    /** Chooses who should stand where next time, and keeps the latest choice. */
    private static final class Planner {
        /** Above every gap that a band can have. */
        private static final int TOO_WIDE = 1000000;

        private final Sites sites;
        /** The sites of the band from below, and their heights. */
        private final int[] order = new int[MOST_SITES];
        private final int[] height = new int[MOST_SITES];
        private int inBand;
        /** For i and a count of more sites: the least greatest gap from the i-th of the band on. */
        private final int[] gapFrom = new int[MOST_SITES * MOST_SITES];
        private final int[] chosen = new int[MOST_SITES];
        private int chosenCount;

        Planner(Sites sites) {
            this.sites = sites;
        }

        int chosenAt(int i) {
            return i < 0 || i >= chosenCount ? NONE : chosen[i];
        }

        int choose(int n, int from, int to) {
            gather(from, to);
            if (n < 1 || n > inBand) {
                return NONE;
            }
            fillGaps(n, to);
            int gap = leastGap(0, from, n - 1);
            pick(n, from, gap);
            return gap;
        }

        private void gather(int from, int to) {
            inBand = 0;
            for (int i = 0; i < sites.count && i < MOST_SITES; i++) {
                Site site = sites.at(i);
                if (site != null && within(site.y, from, to)) {
                    insert(i, site.y);
                }
            }
        }

        private void insert(int number, int y) {
            int at = inBand;
            while (at > 0 && height[at - 1] > y) {
                order[at] = order[at - 1];
                height[at] = height[at - 1];
                at--;
            }
            order[at] = number;
            height[at] = y;
            inBand++;
        }

        private void fillGaps(int n, int to) {
            for (int i = 0; i < inBand; i++) {
                gapFrom[i] = to - height[i];
            }
            for (int more = 1; more < n; more++) {
                for (int i = 0; i < inBand; i++) {
                    gapFrom[more * MOST_SITES + i] = leastGap(i + 1, height[i], more - 1);
                }
            }
        }

        /** The least greatest gap above a height, if the next site is the start-th or a later one. */
        private int leastGap(int start, int below, int more) {
            int best = TOO_WIDE;
            for (int i = start; i < inBand; i++) {
                best = Math.min(best, gapWith(i, below, more));
            }
            return best;
        }

        private int gapWith(int i, int below, int more) {
            return Math.max(height[i] - below, gapFrom[more * MOST_SITES + i]);
        }

        /** The lowest site that keeps to the gap is right each time: the rest can be done from it. */
        private void pick(int n, int from, int gap) {
            chosenCount = 0;
            int below = from;
            for (int i = 0; i < inBand && chosenCount < n; i++) {
                if (gapWith(i, below, n - 1 - chosenCount) <= gap) {
                    chosen[chosenCount] = order[i];
                    chosenCount++;
                    below = height[i];
                }
            }
        }
    }
}

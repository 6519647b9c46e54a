import java.util.ArrayList;
import java.util.Arrays;
import java.util.List;

/**
 * Long runs of calls, made from a fixed seed, on the class and on a plain model of the document
 * side by side: every answer must be the same. The model keeps nothing and tries everything.
 */
public final class OracleTest {

    private static final String[] NAMES = {"speed", "site", "ahead", "chord", "miss", "cloud", "unsay",
        "place", "net", "figures", "figure", "agrees", "fitting", "fits", "size", "bad", "isBad", "clock",
        "inside", "corner", "quarrels", "dip", "even", "calm", "ring", "plan", "planned", "all"};

    /** Doubled or tripled are the calls that need most telling before they show anything. */
    private static final int[] OFTEN = {0, 1, 1, 1, 2, 2, 3, 3, 3, 3, 3, 3, 4, 4, 4, 4, 5, 6, 7, 8, 8, 9, 10, 11, 11,
        12, 12, 13, 13, 14, 14, 15, 15, 16, 16, 17, 17, 17, 18, 18, 19, 19, 20, 20, 21, 21, 21, 22, 23, 24, 24, 24,
        25, 25, 25, 26, 26, 27};

    private static long state = 20261117L;
    private static int wrong = 0;
    private static final int[] counted = new int[NAMES.length];
    private static final int[] telling = new int[NAMES.length];

    public static void main(String[] args) {
        for (int run = 0; run < 600; run++) {
            run(run);
        }
        for (int i = 0; i < NAMES.length; i++) {
            // A call that never answers anything but a refusal would be no test of it.
            if (telling[i] < 50) {
                System.out.println(NAMES[i] + " told too little: " + telling[i] + " of " + counted[i]);
                wrong++;
            }
        }
        System.out.println(wrong == 0 ? "all answers are the model's" : wrong + " answers are not the model's");
        if (wrong != 0) {
            System.exit(1);
        }
    }

    private static void run(int run) {
        Guide guide = new Guide(run % 6);
        StarHide real = new StarHide();
        Model model = new Model();
        List<String> told = new ArrayList<>();
        for (int i = 0; i < 512; i++) {
            int op = i < guide.opening() ? guide.openingOp(i) : OFTEN[pick(OFTEN.length)];
            // What moves all places leaves no figure that fits: most runs do it seldom.
            if (i >= guide.opening() && run % 4 != 0 && (op == 0 || op == 2 || op == 8) && pick(12) != 0) {
                op = 3 + pick(2);
            }
            int[] a = guide.arguments(op, model, i);
            told.add(NAMES[op] + Arrays.toString(a));
            long got = callReal(real, op, a);
            long want = callModel(model, op, a);
            counted[op]++;
            if (want >= 0) {
                telling[op]++;
            }
            if (got != want) {
                wrong++;
                if (wrong < 4) {
                    System.out.println("run " + run + " call " + i + ": " + told.get(i) + " answered " + got
                        + ", due is " + want + "; after " + told);
                }
                return;
            }
        }
    }

    private static int pick(int bound) {
        state = state * 6364136223846793005L + 1442695040888963407L;
        return (int) Math.floorMod(state >>> 33, (long) bound);
    }

    private static int from(int least, int greatest) {
        return least + pick(greatest - least + 1);
    }

    /** Makes arguments: mostly such as a watched ellipse would give, at times from the edges. */
    private static final class Guide {
        final int scale;
        final int x;
        final int y;
        final int w;
        final int h;
        final int kind;

        Guide(int kind) {
            this.kind = kind;
            scale = new int[] {5, 20, 100, 400, 1000, 60}[kind];
            x = from(-scale, scale);
            y = from(-scale / 2, scale / 2);
            w = from(Math.max(1, scale / 2), Math.min(2000, 2 * scale));
            h = from(Math.max(1, scale / 2), Math.min(2000, 2 * scale));
        }

        int opening() {
            return 14;
        }

        int openingOp(int i) {
            return i < 4 ? 8 : i == 4 ? 0 : 1;
        }

        int odd(int usual, int... edges) {
            return pick(40) == 0 ? edges[pick(edges.length)] : usual;
        }

        int siteNumber(Model m) {
            return odd(pick(Math.max(1, m.ys.size())), -1, m.ys.size(), 16, Integer.MAX_VALUE, Integer.MIN_VALUE);
        }

        int tick(int usual) {
            return odd(usual, -1001, 1001, -1000, 1000, 0, Integer.MIN_VALUE, Integer.MAX_VALUE);
        }

        /** The tick at which the guide's ellipse has its end at a site, about. */
        int tickOfEnd(Model m, int site, int side) {
            if (site < 0 || site >= m.ys.size()) {
                return from(-20, 20);
            }
            double d = m.ys.get(site) - y;
            double e = Math.abs(d) < h ? w * Math.sqrt(1 - d * d / ((double) h * h)) : 0;
            return (int) Math.floor((x + side * e + m.xs.get(site)) / m.v) + m.ahead.get(site);
        }

        boolean goesAt(Model m, int site) {
            return m.has(site) && Math.abs(m.ys.get(site) - y) < h;
        }

        /** A site where the guide's ellipse goes, or goes not, if one is soon found. */
        int siteWhere(Model m, boolean goes) {
            int site = siteNumber(m);
            for (int i = 0; i < 6 && goesAt(m, site) != goes; i++) {
                site = siteNumber(m);
            }
            return site;
        }

        int[] chord(Model m) {
            int site = siteWhere(m, true);
            int spread = kind < 2 ? 2 : 1 + pick(Math.max(2, scale / m.v / 2));
            int out = tickOfEnd(m, site, -1);
            int in = tickOfEnd(m, site, 1);
            int lie = pick(40) == 0 ? 1 + pick(spread) : 0;
            int a = out - pick(spread + 1) + lie;
            int b = Math.max(a, out + pick(spread + 2));
            int c = Math.max(b, in - pick(spread + 1));
            int d = Math.max(c, in + pick(spread + 2) - lie);
            if (pick(60) == 0) {
                return new int[] {site, tick(b), tick(a), tick(d), tick(c)};
            }
            return new int[] {site, tick(a), tick(b), tick(c), tick(d)};
        }

        int[] missed(Model m) {
            int site = siteWhere(m, pick(3) == 0);
            int side = pick(2) == 0 ? -1 : 1;
            int end = tickOfEnd(m, site, side);
            int near = end + (side > 0 ? 1 : 0) + side * (pick(3) - (pick(12) == 0 ? 2 : 0));
            int far = near + side * pick(10);
            if (pick(40) == 0) {
                return new int[] {site, tick(Math.max(near, far)), tick(Math.min(near, far))};
            }
            return new int[] {site, tick(Math.min(near, far)), tick(Math.max(near, far))};
        }

        int[] dipped(Model m) {
            int site = siteNumber(m);
            int out = 1 + pick(8);
            return new int[] {site, tick(tickOfEnd(m, site, -1) - out), tick(tickOfEnd(m, site, 1) + out + from(-1, 1))};
        }

        int[] netRow(int i) {
            int row = i < 4 ? i : odd(pick(4), -1, 4, Integer.MIN_VALUE);
            int n = odd(from(1, kind == 5 ? 8 : 4), 0, 9, 8, 1, -3, Integer.MAX_VALUE);
            int by = odd(from(1, Math.max(1, scale / 4)), 0, 1001, 1000, 1, Integer.MAX_VALUE);
            int[] middles = {x, y, w, h};
            int first = middles[Math.floorMod(row, 4)] - by * pick(Math.max(1, Math.min(n, 8)));
            if (row > 1) {
                first = Math.max(1, first);
            }
            return new int[] {row, odd(first, 0, 1, 2000, 2001, -2000, -2001, 15000, 15001, -15000, -15001), by, n};
        }

        int what(int most) {
            return odd(pick(most + 1), -1, most + 1, Integer.MAX_VALUE, Integer.MIN_VALUE);
        }

        int figure(Model m) {
            return odd(pick(m.figures()), -1, m.figures(), m.figures() - 1, Integer.MAX_VALUE, Integer.MIN_VALUE);
        }

        int[] arguments(int op, Model m, int i) {
            switch (op) {
                case 0: return new int[] {odd(from(1, 10), 0, 11, -5, Integer.MAX_VALUE)};
                case 1: return new int[] {
                    odd(y + from(-h - h / 8 - 1, h + h / 8 + 1), -2000, 2000, -2001, 2001, Integer.MIN_VALUE),
                    odd(from(-scale, scale), -5000, 5000, -5001, 5001, Integer.MAX_VALUE)};
                case 2: return new int[] {siteNumber(m), odd(from(-4, 4), -50, 50, -51, 51, Integer.MIN_VALUE)};
                case 3: return chord(m);
                case 4: return missed(m);
                case 5: case 6: case 16: case 20: return new int[] {siteNumber(m)};
                case 7: return new int[] {siteNumber(m), tick(from(-1000, 1000))};
                case 8: return netRow(i);
                case 10: return new int[] {figure(m), what(3)};
                case 11: return new int[] {figure(m), siteNumber(m)};
                case 13: return new int[] {odd(pick(Math.max(1, m.fitting())), -1, m.fitting(), Integer.MAX_VALUE)};
                case 14: return new int[] {pick(2)};
                case 15: case 18: return new int[] {what(1)};
                case 17: return new int[] {siteNumber(m), what(2)};
                case 19: return new int[] {odd(pick(12), -1, 32, Integer.MAX_VALUE), what(1)};
                case 21: return dipped(m);
                case 22: return new int[] {odd(from(0, 4 * scale), 0, 1000, 1001, -1, Integer.MAX_VALUE)};
                case 23: return new int[] {pick(4)};
                case 24: return new int[] {figure(m), what(2)};
                case 25: return band();
                case 26: return new int[] {odd(pick(6), -1, 16, Integer.MAX_VALUE)};
                case 27: return new int[] {what(4)};
                default: return new int[0];
            }
        }

        int[] band() {
            int low = y - pick(h + h / 8 + 2);
            int high = y + pick(h + h / 8 + 2);
            return new int[] {odd(from(1, 5), 0, -1, 16, Integer.MAX_VALUE),
                odd(low, -2000, -2001, 2000, high, Integer.MIN_VALUE), odd(high, 2000, 2001, low, Integer.MAX_VALUE)};
        }
    }

    private static long bit(boolean b) {
        return b ? 1 : 0;
    }

    private static long callReal(StarHide s, int op, int[] a) {
        switch (op) {
            case 0: return s.speed(a[0]);
            case 1: return s.site(a[0], a[1]);
            case 2: return s.ahead(a[0], a[1]);
            case 3: return bit(s.chord(a[0], a[1], a[2], a[3], a[4]));
            case 4: return bit(s.miss(a[0], a[1], a[2]));
            case 5: return bit(s.cloud(a[0]));
            case 6: return bit(s.unsay(a[0]));
            case 7: return s.place(a[0], a[1]);
            case 8: return bit(s.net(a[0], a[1], a[2], a[3]));
            case 9: return s.figures();
            case 10: return s.figure(a[0], a[1]);
            case 11: return s.agrees(a[0], a[1]);
            case 12: return s.fitting();
            case 13: return s.fits(a[0]);
            case 14: return s.size(a[0] == 1);
            case 15: return s.bad(a[0]);
            case 16: return s.isBad(a[0]);
            case 17: return s.clock(a[0], a[1]);
            case 18: return s.inside(a[0]);
            case 19: return s.corner(a[0], a[1]);
            case 20: return s.quarrels(a[0]);
            case 21: return s.dip(a[0], a[1], a[2]);
            case 22: return s.even(a[0]);
            // Dips are to gather: all of them go only at times.
            case 23: return a[0] == 0 ? s.calm() : 0;
            case 24: return s.ring(a[0], a[1]);
            case 25: return s.plan(a[0], a[1], a[2]);
            case 26: return s.planned(a[0]);
            default: return s.all(a[0]);
        }
    }

    private static long callModel(Model s, int op, int[] a) {
        switch (op) {
            case 0: return s.speed(a[0]);
            case 1: return s.site(a[0], a[1]);
            case 2: return s.setAhead(a[0], a[1]);
            case 3: return bit(s.report(a[0], 'H', a[1], a[2], a[3], a[4]));
            case 4: return bit(s.report(a[0], 'M', a[1], a[2], a[2], a[2]));
            case 5: return bit(s.report(a[0], 'C', 0, 0, 0, 0));
            case 6: return bit(s.unsay(a[0]));
            case 7: return s.has(a[0]) && s.tick(a[1]) ? s.place(a[0], a[1]) : -1000000;
            case 8: return bit(s.net(a[0], a[1], a[2], a[3]));
            case 9: return s.figures();
            case 10: return s.hasFigure(a[0]) && a[1] >= 0 && a[1] <= 3 ? s.figure(a[0])[a[1]] : -1000000;
            case 11: return s.hasFigure(a[0]) && s.has(a[1]) ? bit(s.agrees(a[0], a[1])) : -1;
            case 12: return s.fitting();
            case 13: return s.fits(a[0]);
            case 14: return s.size(a[0] == 1);
            case 15: return a[0] == 0 ? s.bad()[0] : a[0] == 1 ? s.bad()[1] : -1;
            case 16: return s.has(a[0]) ? bit(!s.agrees(s.bad()[1], a[0])) : -1;
            case 17: return s.clock(a[0], a[1]);
            case 18: return a[0] == 0 ? s.corners().size() : a[0] == 1 ? s.area() : -1;
            case 19: return a[0] >= 0 && a[0] < s.corners().size() && (a[1] == 0 || a[1] == 1)
                ? s.corners().get(a[0])[a[1]] : -1000000;
            case 20: return s.quarrels(a[0]);
            case 21: return s.dip(a[0], a[1], a[2]);
            case 22: return s.even(a[0]);
            case 23: return a[0] == 0 ? s.calm() : 0;
            case 24: return s.ring(a[0], a[1]);
            case 25: return s.plan(a[0], a[1], a[2]);
            case 26: return a[0] >= 0 && a[0] < s.planned.size() ? s.planned.get(a[0]) : -1;
            default: return s.all(a[0]);
        }
    }

    /** The document, word by word. */
    private static final class Model {
        int v = 5;
        final List<Integer> ys = new ArrayList<>();
        final List<Integer> xs = new ArrayList<>();
        final List<Integer> ahead = new ArrayList<>();
        /** Kind, a, b, c, d; null without a report. */
        final List<int[]> reports = new ArrayList<>();
        final int[][] rows = {{0, 1, 1}, {0, 1, 1}, {100, 1, 1}, {100, 1, 1}};
        final List<int[]> dips = new ArrayList<>();
        int slack = 10;
        List<Integer> planned = new ArrayList<>();

        boolean has(int site) {
            return site >= 0 && site < ys.size();
        }

        boolean tick(int t) {
            return -1000 <= t && t <= 1000;
        }

        int speed(int next) {
            if (next < 1 || next > 10) {
                return -1;
            }
            int was = v;
            v = next;
            return was;
        }

        int site(int y, int x) {
            if (y < -2000 || y > 2000 || x < -5000 || x > 5000 || ys.contains(y) || ys.size() == 16) {
                return -1;
            }
            ys.add(y);
            xs.add(x);
            ahead.add(0);
            reports.add(null);
            return ys.size() - 1;
        }

        int setAhead(int site, int ticks) {
            return has(site) && -50 <= ticks && ticks <= 50 ? ahead.set(site, ticks) : -1000;
        }

        boolean report(int site, int kind, int a, int b, int c, int d) {
            boolean can = has(site) && tick(a) && tick(b) && tick(c) && tick(d) && a <= b && b <= c && c <= d;
            if (can) {
                reports.set(site, new int[] {kind, a, b, c, d});
            }
            return can;
        }

        boolean unsay(int site) {
            return has(site) && reports.set(site, null) != null;
        }

        int place(int site, int t) {
            return v * (t - ahead.get(site)) - xs.get(site);
        }

        boolean net(int row, int from, int by, int n) {
            int[] least = {-15000, -2000, 1, 1};
            int[] most = {15000, 2000, 2000, 2000};
            if (row < 0 || row > 3 || n < 1 || n > 8 || by < 1 || by > 1000 || from < least[row] || from > most[row]
                || row > 1 && from + (n - 1) * by > 2000) {
                return false;
            }
            rows[row] = new int[] {from, by, n};
            return true;
        }

        int figures() {
            return rows[0][2] * rows[1][2] * rows[2][2] * rows[3][2];
        }

        boolean hasFigure(int f) {
            return f >= 0 && f < figures();
        }

        int[] figure(int f) {
            int number = 0;
            for (int i = 0; i < rows[0][2]; i++) {
                for (int j = 0; j < rows[1][2]; j++) {
                    int inner = rows[2][2] * rows[3][2];
                    if (f >= number + inner) {
                        number += inner;
                        continue;
                    }
                    int k = (f - number) / rows[3][2];
                    int l = (f - number) % rows[3][2];
                    return new int[] {rows[0][0] + i * rows[0][1], rows[1][0] + j * rows[1][1],
                        rows[2][0] + k * rows[2][1], rows[3][0] + l * rows[3][1]};
                }
            }
            throw new IllegalStateException();
        }

        /** The sign of e less m. */
        static int halfWidthAgainst(int m, int d, int w, int h) {
            if (m < 0) {
                return 1;
            }
            long square = (long) w * w * ((long) h * h - (long) d * d);
            return Long.compare(square, (long) m * m * h * h);
        }

        boolean agrees(int f, int site) {
            int[] r = reports.get(site);
            if (r == null || r[0] == 'C') {
                return true;
            }
            int[] e = figure(f);
            int x = e[0];
            int d = ys.get(site) - e[1];
            boolean goes = Math.abs(d) < e[3];
            if (r[0] == 'M') {
                // The place that is nearest to the middle is the first to be in it.
                int near = Math.max(0, Math.max(place(site, r[1]) - x, x - place(site, r[2])));
                return !goes || halfWidthAgainst(near, d, e[2], e[3]) <= 0;
            }
            return goes && halfWidthAgainst(x - place(site, r[1]), d, e[2], e[3]) <= 0
                && halfWidthAgainst(x - place(site, r[2]), d, e[2], e[3]) >= 0
                && halfWidthAgainst(place(site, r[3]) - x, d, e[2], e[3]) >= 0
                && halfWidthAgainst(place(site, r[4]) - x, d, e[2], e[3]) <= 0;
        }

        int wrongFor(int f) {
            int n = 0;
            for (int i = 0; i < ys.size(); i++) {
                n += agrees(f, i) ? 0 : 1;
            }
            return n;
        }

        boolean fit(int f) {
            for (int i = 0; i < ys.size(); i++) {
                if (!agrees(f, i)) {
                    return false;
                }
            }
            return true;
        }

        int fitting() {
            int n = 0;
            for (int f = 0; f < figures(); f++) {
                n += fit(f) ? 1 : 0;
            }
            return n;
        }

        int fits(int k) {
            int n = 0;
            for (int f = 0; f < figures(); f++) {
                if (fit(f)) {
                    if (n == k) {
                        return f;
                    }
                    n++;
                }
            }
            return -1;
        }

        int size(boolean greatest) {
            int best = -1;
            for (int f = 0; f < figures(); f++) {
                if (fit(f)) {
                    int s = figure(f)[2] * figure(f)[3];
                    best = best == -1 || (greatest ? s > best : s < best) ? s : best;
                }
            }
            return best;
        }

        int[] bad() {
            int[] best = {wrongFor(0), 0};
            for (int f = 1; f < figures(); f++) {
                int n = wrongFor(f);
                if (n < best[0]) {
                    best = new int[] {n, f};
                }
            }
            return best;
        }

        int clock(int site, int what) {
            if (!has(site) || what < 0 || what > 2) {
                // The document has no answer of its own for what 0 at no site.
                return -1000;
            }
            List<Integer> good = new ArrayList<>();
            int was = ahead.get(site);
            for (int s = -50; s <= 50; s++) {
                ahead.set(site, s);
                boolean some = false;
                for (int f = 0; f < figures() && !some; f++) {
                    some = agrees(f, site) && fit(f);
                }
                if (some) {
                    good.add(s);
                }
            }
            ahead.set(site, was);
            if (what == 0) {
                return good.size();
            }
            return good.isEmpty() ? -1000 : good.get(what == 1 ? 0 : good.size() - 1);
        }

        List<int[]> points() {
            List<int[]> all = new ArrayList<>();
            for (int i = 0; i < ys.size(); i++) {
                int[] r = reports.get(i);
                if (r != null && r[0] == 'H') {
                    all.add(new int[] {place(i, r[2]), ys.get(i)});
                    all.add(new int[] {place(i, r[3]), ys.get(i)});
                }
            }
            return all;
        }

        static long left(int[] a, int[] b, int[] p) {
            return (long) (b[0] - a[0]) * (p[1] - a[1]) - (long) (b[1] - a[1]) * (p[0] - a[0]);
        }

        static boolean same(int[] a, int[] b) {
            return a[0] == b[0] && a[1] == b[1];
        }

        static boolean isEdge(int[] a, int[] b, List<int[]> all) {
            for (int[] p : all) {
                long side = left(a, b, p);
                boolean between = Math.min(a[0], b[0]) <= p[0] && p[0] <= Math.max(a[0], b[0])
                    && Math.min(a[1], b[1]) <= p[1] && p[1] <= Math.max(a[1], b[1]);
                if (side < 0 || side == 0 && !between) {
                    return false;
                }
            }
            return !same(a, b);
        }

        List<int[]> corners() {
            List<int[]> all = points();
            List<int[]> found = new ArrayList<>();
            if (all.isEmpty()) {
                return found;
            }
            int[] at = all.get(0);
            for (int[] p : all) {
                if (p[1] < at[1] || p[1] == at[1] && p[0] < at[0]) {
                    at = p;
                }
            }
            int[] start = at;
            do {
                found.add(at);
                for (int[] p : all) {
                    if (isEdge(at, p, all)) {
                        at = p;
                        break;
                    }
                }
            } while (!same(at, start));
            return found;
        }

        long area() {
            List<int[]> c = corners();
            long sum = 0;
            for (int i = 2; i < c.size(); i++) {
                sum += left(c.get(0), c.get(i - 1), c.get(i));
            }
            return sum;
        }

        int quarrels(int site) {
            int[] r = has(site) ? reports.get(site) : null;
            if (r == null || r[0] != 'M') {
                return -1;
            }
            long y = ys.get(site);
            boolean notLeft = false;
            boolean notRight = false;
            for (int[] a : points()) {
                for (int[] b : points()) {
                    if (a[1] < y && y < b[1]) {
                        long at = (b[0] - a[0]) * (y - a[1]) + (long) a[0] * (b[1] - a[1]);
                        notRight |= (long) place(site, r[1]) * (b[1] - a[1]) <= at;
                        notLeft |= (long) place(site, r[2]) * (b[1] - a[1]) >= at;
                    }
                }
            }
            return notLeft && notRight ? 1 : 0;
        }

        int dip(int site, int a, int b) {
            if (!has(site) || !tick(a) || !tick(b) || a >= b || dips.size() == 10) {
                return -1;
            }
            dips.add(new int[] {site, a, b});
            return dips.size();
        }

        int even(int miss) {
            if (miss < 0 || miss > 1000) {
                return -1;
            }
            int was = slack;
            slack = miss;
            return was;
        }

        int calm() {
            int n = dips.size();
            dips.clear();
            return n;
        }

        long ring(int f, int what) {
            if (!hasFigure(f) || what < 0 || what > 2) {
                return -1;
            }
            int[] e = figure(f);
            int even = 0;
            List<Long> squares = new ArrayList<>();
            for (int[] d : dips) {
                long p = place(d[0], d[1]);
                long q = place(d[0], d[2]);
                even += Math.abs(p + q - 2 * e[0]) <= slack ? 1 : 0;
                long up = ys.get(d[0]) - e[1];
                squares.add((p - e[0]) * (p - e[0]) + up * up);
                squares.add((q - e[0]) * (q - e[0]) + up * up);
            }
            if (what == 0) {
                return even;
            }
            if (even < dips.size() || dips.isEmpty()) {
                return -1;
            }
            squares.sort(null);
            return squares.get(what == 1 ? 0 : squares.size() - 1);
        }

        int plan(int n, int from, int to) {
            if (n < 1 || from < -2000 || to > 2000 || from >= to) {
                return -1;
            }
            List<Integer> band = new ArrayList<>();
            for (int i = 0; i < ys.size(); i++) {
                if (from <= ys.get(i) && ys.get(i) <= to) {
                    band.add(i);
                }
            }
            band.sort((p, q) -> ys.get(p) - ys.get(q));
            int least = -1;
            List<Integer> best = null;
            for (int set = 0; set < 1 << band.size(); set++) {
                if (Integer.bitCount(set) == n) {
                    List<Integer> some = chosen(band, set);
                    int gap = gap(some, from, to);
                    if (best == null || gap < least || gap == least && isLower(some, best)) {
                        best = some;
                        least = gap;
                    }
                }
            }
            if (best != null) {
                planned = best;
            }
            return least;
        }

        static List<Integer> chosen(List<Integer> band, int set) {
            List<Integer> some = new ArrayList<>();
            for (int i = 0; i < band.size(); i++) {
                if ((set >> i & 1) == 1) {
                    some.add(band.get(i));
                }
            }
            return some;
        }

        int gap(List<Integer> some, int from, int to) {
            int gap = 0;
            int last = from;
            for (int i : some) {
                gap = Math.max(gap, ys.get(i) - last);
                last = ys.get(i);
            }
            return Math.max(gap, to - last);
        }

        boolean isLower(List<Integer> one, List<Integer> other) {
            for (int i = 0; i < one.size(); i++) {
                int a = ys.get(one.get(i));
                int b = ys.get(other.get(i));
                if (a != b) {
                    return a < b;
                }
            }
            return false;
        }

        int all(int what) {
            if (what == 0) {
                return ys.size();
            }
            if (what == 4) {
                return dips.size();
            }
            if (what < 0 || what > 4) {
                return -1;
            }
            int n = 0;
            for (int[] r : reports) {
                n += r != null && r[0] == " HMC".charAt(what) ? 1 : 0;
            }
            return n;
        }
    }
}

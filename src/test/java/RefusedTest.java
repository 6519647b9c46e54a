import java.util.ArrayList;
import java.util.List;
import java.util.function.ToLongFunction;

/**
 * A refused call, and a call that only asks, leaves all as it was. Two objects are brought to the
 * same state and asked everything; one of them gets the call; then both are asked everything again,
 * and answer the same. No object is used for more than the 512 calls that are promised.
 */
public final class RefusedTest {

    private static final int LOW = Integer.MIN_VALUE;
    private static final int HIGH = Integer.MAX_VALUE;
    private static final int NOWHERE = -1000000;

    private static int wrong = 0;
    private static int tried = 0;

    /** A call with the answer that is due to it in every state. */
    private static final class Call {
        final String name;
        final long due;
        final ToLongFunction<StarHide> call;

        Call(String name, long due, ToLongFunction<StarHide> call) {
            this.name = name;
            this.due = due;
            this.call = call;
        }
    }

    private interface State {
        StarHide make();
    }

    public static void main(String[] args) {
        State[] states = {StarHide::new, RefusedTest::some, RefusedTest::full};
        String[] names = {"a new object", "one with some of all", "a full one"};
        int[] sites = {0, 4, 16};
        for (int i = 0; i < states.length; i++) {
            for (Call call : refusedCalls(sites[i])) {
                tryCall(names[i], states[i], call, true);
            }
            for (Call call : questions()) {
                tryCall(names[i], states[i], call, false);
            }
        }
        for (Call call : refusedWithSites()) {
            tryCall(names[1], states[1], call, true);
            tryCall(names[2], states[2], call, true);
        }
        tryCall(names[1], states[1], new Call("unsay without a report", 0, s -> bit(s.unsay(3))), true);
        tryCall(names[2], states[2], new Call("a 17th site", -1, s -> s.site(-1999, 0)), true);
        tryCall(names[2], states[2], new Call("an 11th dip", -1, s -> s.dip(3, -7, 7)), true);
        System.out.println(wrong == 0 ? tried + " calls left all as it was" : wrong + " answers are not as due");
        if (wrong != 0) {
            System.exit(1);
        }
    }

    private static long bit(boolean b) {
        return b ? 1 : 0;
    }

    private static void fault(String text) {
        wrong++;
        if (wrong < 20) {
            System.out.println(text);
        }
    }

    private static void tryCall(String name, State state, Call call, boolean hasDue) {
        tried++;
        StarHide one = state.make();
        StarHide twin = state.make();
        String where = call.name + " at " + name;
        // A twin that was never asked anything shows whether asking changes something.
        if (hasDue) {
            compare(where + ", before", answers(one), answers(twin));
        }
        long got = call.call.applyAsLong(one);
        if (hasDue && got != call.due) {
            fault(where + " answered " + got + ", due is " + call.due);
        }
        compare(where + ", after", answers(one), answers(twin));
        compare(where + ", at the end", lastAnswers(one), lastAnswers(twin));
    }

    private static void compare(String where, List<String> one, List<String> twin) {
        for (int i = 0; i < Math.max(one.size(), twin.size()); i++) {
            String got = i < one.size() ? one.get(i) : "nothing";
            String want = i < twin.size() ? twin.get(i) : "nothing";
            if (!got.equals(want)) {
                fault(where + ": " + got + ", the twin's is " + want);
                return;
            }
        }
    }

    // ---- states

    private static StarHide some() {
        StarHide s = new StarHide();
        s.speed(2);
        s.site(0, 3);
        s.site(30, -4);
        s.site(-30, 0);
        s.site(60, 5);
        s.ahead(1, 2);
        s.net(0, -10, 10, 3);
        s.net(1, -5, 5, 2);
        s.net(2, 40, 10, 3);
        s.net(3, 45, 30, 2);
        s.chord(0, -25, -15, 20, 29);
        s.miss(1, 15, 25);
        s.cloud(2);
        s.even(12);
        s.dip(0, -40, 41);
        s.dip(3, -30, 33);
        s.plan(2, -50, 80);
        return s;
    }

    private static StarHide full() {
        StarHide s = new StarHide();
        s.speed(3);
        for (int row = 0; row < 4; row++) {
            s.net(row, row < 2 ? -40 : 200, 10, 8);
        }
        for (int i = 0; i < 16; i++) {
            s.site(25 * i - 190, i);
            s.ahead(i, i % 3);
            if (i % 3 == 0) {
                s.chord(i, -100, -20 - i, 20, 100);
            } else if (i % 3 == 1) {
                s.miss(i, 70 + i, 120);
            } else {
                s.cloud(i);
            }
        }
        s.even(999);
        for (int i = 0; i < 10; i++) {
            s.dip(i, -100 - i, 100);
        }
        s.plan(4, -200, 200);
        return s;
    }

    // ---- everything that can be asked

    private static List<String> answers(StarHide s) {
        List<String> all = new ArrayList<>();
        int last = s.figures() - 1;
        int sites = s.all(0);
        for (int what = 0; what <= 4; what++) {
            all.add("all(" + what + ") " + s.all(what));
        }
        for (int what = 0; what <= 3; what++) {
            all.add("figure(0, " + what + ") " + s.figure(0, what));
            all.add("figure(last, " + what + ") " + s.figure(last, what));
        }
        all.add("fitting " + s.fitting() + ", first " + s.fits(0) + ", second " + s.fits(1));
        all.add("sizes " + s.size(false) + ", " + s.size(true));
        all.add("bad " + s.bad(0) + " by " + s.bad(1));
        for (int i = 0; i < sites; i++) {
            all.add("site " + i + ": place " + s.place(i, 0) + ", agrees " + s.agrees(0, i) + ", " + s.agrees(last, i)
                + ", bad " + s.isBad(i) + ", clocks " + s.clock(i, 0) + ", quarrels " + s.quarrels(i));
        }
        all.add("clock " + s.clock(0, 1) + ", " + s.clock(0, 2));
        all.add("inside " + s.inside(0) + ", " + s.inside(1));
        for (int k = 0; k <= 3; k++) {
            all.add("corner(" + k + ") " + s.corner(k, 0) + ", " + s.corner(k, 1));
            all.add("planned(" + k + ") " + s.planned(k));
        }
        for (int what = 0; what <= 2; what++) {
            all.add("ring " + what + ": " + s.ring(0, what) + ", " + s.ring(last, what));
        }
        return all;
    }

    /** What only a change tells: the old values that come back with it. */
    private static List<String> lastAnswers(StarHide s) {
        List<String> all = new ArrayList<>();
        int sites = s.all(0);
        all.add("speed was " + s.speed(1) + ", a tick is " + (s.place(0, 1) - s.place(0, 0)));
        all.add("even was " + s.even(1) + ", " + s.calm() + " dips went");
        for (int i = 0; i < sites; i++) {
            all.add("clock " + i + " was " + s.ahead(i, 1) + ", " + s.unsay(i));
        }
        all.add("a site " + s.site(-1998, 7) + ", a dip " + s.dip(0, 1, 2));
        all.add("a plan " + s.plan(1, -2000, 2000) + " of " + s.planned(0));
        return all;
    }

    // ---- calls

    private static List<Call> refusedCalls(int sites) {
        List<Call> calls = new ArrayList<>();
        for (int v : new int[] {0, 11, -1, LOW, HIGH}) {
            calls.add(new Call("speed(" + v + ")", -1, s -> s.speed(v)));
        }
        for (int miss : new int[] {-1, 1001, LOW, HIGH}) {
            calls.add(new Call("even(" + miss + ")", -1, s -> s.even(miss)));
        }
        for (int[] yx : new int[][] {{-2001, 1}, {2001, 1}, {77, -5001}, {77, 5001}, {LOW, 0}, {77, HIGH}}) {
            calls.add(new Call("site(" + yx[0] + ", " + yx[1] + ")", -1, s -> s.site(yx[0], yx[1])));
        }
        for (int site : new int[] {-1, sites, 16, 31, LOW, HIGH}) {
            addWithoutSite(calls, site);
        }
        addNets(calls);
        addPlans(calls);
        addForOthers(calls);
        return calls;
    }

    private static void addWithoutSite(List<Call> calls, int site) {
        String at = " at site " + site;
        calls.add(new Call("ahead" + at, -1000, s -> s.ahead(site, 7)));
        calls.add(new Call("chord" + at, 0, s -> bit(s.chord(site, -9, -8, 8, 9))));
        calls.add(new Call("miss" + at, 0, s -> bit(s.miss(site, 0, 0))));
        calls.add(new Call("cloud" + at, 0, s -> bit(s.cloud(site))));
        calls.add(new Call("unsay" + at, 0, s -> bit(s.unsay(site))));
        calls.add(new Call("dip" + at, -1, s -> s.dip(site, -7, 7)));
        calls.add(new Call("place" + at, NOWHERE, s -> s.place(site, 0)));
        calls.add(new Call("agrees" + at, -1, s -> s.agrees(0, site)));
        calls.add(new Call("isBad" + at, -1, s -> s.isBad(site)));
        calls.add(new Call("clock" + at, -1000, s -> s.clock(site, 0)));
        calls.add(new Call("quarrels" + at, -1, s -> s.quarrels(site)));
    }

    private static void addNets(List<Call> calls) {
        int[][] rows = {{-1, 1, 1, 2}, {4, 1, 1, 2}, {LOW, 1, 1, 2}, {HIGH, 1, 1, 2}, {0, -15001, 1, 2}, {0, 15001, 1, 2},
            {1, -2001, 1, 2}, {1, 2001, 1, 2}, {2, 0, 1, 2}, {2, 2001, 1, 1}, {3, 0, 1, 2}, {3, 2001, 1, 1},
            {2, 1994, 1, 8}, {3, 1994, 1, 8}};
        for (int[] r : rows) {
            calls.add(new Call("net(" + r[0] + ", " + r[1] + ", " + r[2] + ", " + r[3] + ")", 0,
                s -> bit(s.net(r[0], r[1], r[2], r[3]))));
        }
        for (int row = 0; row < 4; row++) {
            int of = row;
            for (int by : new int[] {0, 1001, -1, LOW, HIGH}) {
                calls.add(new Call("net(" + row + ", 9, " + by + ", 2)", 0, s -> bit(s.net(of, 9, by, 2))));
            }
            for (int n : new int[] {0, 9, -1, LOW, HIGH}) {
                calls.add(new Call("net(" + row + ", 9, 1, " + n + ")", 0, s -> bit(s.net(of, 9, 1, n))));
            }
        }
    }

    private static void addPlans(List<Call> calls) {
        int[][] plans = {{0, -2000, 2000}, {-1, -2000, 2000}, {17, -2000, 2000}, {HIGH, -2000, 2000}, {LOW, -2000, 2000},
            {1, -2001, 2000}, {1, -2000, 2001}, {1, 0, 0}, {1, 10, 9}, {1, 1990, 1991}, {1, LOW, HIGH}, {1, HIGH, LOW}};
        for (int[] p : plans) {
            calls.add(new Call("plan(" + p[0] + ", " + p[1] + ", " + p[2] + ")", -1, s -> s.plan(p[0], p[1], p[2])));
        }
    }

    private static void addForOthers(List<Call> calls) {
        for (int odd : new int[] {-1, 5, LOW, HIGH}) {
            String of = "(" + odd + ")";
            calls.add(new Call("figure for" + of, NOWHERE, s -> s.figure(0, odd)));
            calls.add(new Call("bad" + of, -1, s -> s.bad(odd)));
            calls.add(new Call("clock for" + of, -1000, s -> s.clock(0, odd)));
            calls.add(new Call("inside" + of, -1, s -> s.inside(odd)));
            calls.add(new Call("corner for" + of, NOWHERE, s -> s.corner(0, odd)));
            calls.add(new Call("ring for" + of, -1, s -> s.ring(0, odd)));
            calls.add(new Call("all" + of, -1, s -> s.all(odd)));
        }
        for (int odd : new int[] {-1, 4096, LOW, HIGH}) {
            String of = "(" + odd + ")";
            calls.add(new Call("figure" + of, NOWHERE, s -> s.figure(odd, 0)));
            calls.add(new Call("agrees" + of, -1, s -> s.agrees(odd, 0)));
            calls.add(new Call("fits" + of, -1, s -> s.fits(odd)));
            calls.add(new Call("corner" + of, NOWHERE, s -> s.corner(odd, 0)));
            calls.add(new Call("ring" + of, -1, s -> s.ring(odd, 0)));
            calls.add(new Call("planned" + of, -1, s -> s.planned(odd)));
        }
    }

    /** Refused for something else than the site, each at a site with a report. */
    private static List<Call> refusedWithSites() {
        List<Call> calls = new ArrayList<>();
        for (int site = 0; site < 3; site++) {
            int at = site;
            for (int ticks : new int[] {-51, 51, LOW, HIGH}) {
                calls.add(new Call("ahead(" + site + ", " + ticks + ")", -1000, s -> s.ahead(at, ticks)));
            }
            for (int[] t : new int[][] {{1, 0, 2, 3}, {0, 2, 1, 3}, {0, 1, 3, 2}, {-1001, 0, 1, 2}, {0, 1, 2, 1001},
                {LOW, 0, 0, HIGH}}) {
                calls.add(new Call("chord at " + site + " of " + t[0] + ", " + t[1] + ", " + t[2] + ", " + t[3], 0,
                    s -> bit(s.chord(at, t[0], t[1], t[2], t[3]))));
            }
            for (int[] t : new int[][] {{1, 0}, {-1001, 0}, {0, 1001}, {LOW, HIGH}, {HIGH, LOW}}) {
                calls.add(new Call("miss at " + site + " of " + t[0] + ", " + t[1], 0, s -> bit(s.miss(at, t[0], t[1]))));
            }
            for (int[] t : new int[][] {{1, 1}, {1, 0}, {-1001, 0}, {0, 1001}, {LOW, HIGH}, {HIGH, LOW}}) {
                calls.add(new Call("dip at " + site + " of " + t[0] + ", " + t[1], -1, s -> s.dip(at, t[0], t[1])));
            }
            for (int tick : new int[] {-1001, 1001, LOW, HIGH}) {
                calls.add(new Call("place(" + site + ", " + tick + ")", NOWHERE, s -> s.place(at, tick)));
            }
        }
        calls.add(new Call("a site of a taken height", -1, s -> s.site(s.all(0) == 4 ? 30 : -190, 9)));
        return calls;
    }

    private static List<Call> questions() {
        List<Call> calls = new ArrayList<>();
        calls.add(new Call("everything", 0, s -> answers(s).size()));
        calls.add(new Call("clock", 0, s -> s.clock(1, 0)));
        calls.add(new Call("clock of the last", 0, s -> s.clock(s.all(0) - 1, 2)));
        calls.add(new Call("quarrels", 0, s -> s.quarrels(1)));
        calls.add(new Call("isBad", 0, s -> s.isBad(0)));
        calls.add(new Call("size", 0, s -> s.size(true)));
        calls.add(new Call("corner", 0, s -> s.corner(0, 0)));
        calls.add(new Call("ring", 0, s -> s.ring(0, 2)));
        return calls;
    }
}

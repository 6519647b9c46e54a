import java.util.function.IntFunction;

/**
 * The promises 1 to 29, sentence by sentence: each part that tells an edge (none such, without any,
 * for others, all places taken, what can't be) has a test of its own, under the document's words.
 * No object is used for more than the 512 calls that are promised.
 */
public final class PromiseEdgeTest {

    private static final int LOW = Integer.MIN_VALUE;
    private static final int HIGH = Integer.MAX_VALUE;
    private static final int NOWHERE = -1000000;
    private static final int NO_CLOCK = -1000;

    private static int wrong = 0;
    private static int sentences = 0;
    private static int checks = 0;
    private static String sentence = "";

    public static void main(String[] args) {
        promisesOfSites();
        promisesOfReports();
        promisesOfFigures();
        promisesOfFitting();
        promisesOfBadAndClocks();
        promisesOfInside();
        promisesOfDips();
        promisesOfPlans();
        System.out.println(wrong == 0 ? sentences + " sentences hold" : wrong + " answers are not as due");
        if (wrong != 0) {
            System.exit(1);
        }
    }

    private static void test(int promise, String words, Runnable test) {
        sentence = promise + ": " + words;
        sentences++;
        int before = checks;
        test.run();
        if (checks == before) {
            fault("nothing was checked");
        }
    }

    private static void fault(String text) {
        wrong++;
        System.out.println("promise " + sentence + ": " + text);
    }

    private static void due(String call, long got, long want) {
        checks++;
        if (got != want) {
            fault(call + " answered " + got + ", due is " + want);
        }
    }

    private static void due(String call, boolean got, boolean want) {
        due(call, got ? 1 : 0, want ? 1 : 0);
    }

    /** For every number that is not from 0 up to one below many, the nearest ones and the extremes. */
    private static void dueOutside(String call, int many, long want, IntFunction<Long> asked) {
        int[] outside = {-1, -2, many, many + 1, many + 31, LOW, LOW + 1, HIGH, HIGH - 1, 1 << 30, 1 << 16};
        for (int one : outside) {
            due(call + " of " + one, asked.apply(one), want);
        }
    }

    private static StarHide sitesAt(int... heights) {
        StarHide s = new StarHide();
        s.speed(1);
        for (int y : heights) {
            s.site(y, 0);
        }
        return s;
    }

    private static StarHide sixteen() {
        StarHide s = new StarHide();
        s.speed(1);
        for (int i = 0; i < 16; i++) {
            s.site(10 * i, 0);
        }
        return s;
    }

    /** Asks at objects without a site, with one, with two and with all sixteen. */
    private static void dueWithoutSite(String call, long want, Asked asked) {
        StarHide[] some = {new StarHide(), sitesAt(0), sitesAt(0, 1), sixteen()};
        int[] many = {0, 1, 2, 16};
        for (int i = 0; i < some.length; i++) {
            StarHide s = some[i];
            dueOutside(call + " with " + many[i] + " sites", many[i], want, site -> asked.answer(s, site));
        }
    }

    private interface Asked {
        long answer(StarHide s, int site);
    }

    private static long bit(boolean b) {
        return b ? 1 : 0;
    }

    // ---- 1 to 4, 9

    private static void promisesOfSites() {
        test(1, "No SITES, REPORTS, DIPS.", PromiseEdgeTest::newObject);
        test(2, "SPEED: what it was", PromiseEdgeTest::speedWas);
        test(2, "NONE if it can't be", PromiseEdgeTest::speedRefused);
        test(3, "A SITE: its number", PromiseEdgeTest::siteNumber);
        test(3, "NONE if something can't be", PromiseEdgeTest::siteRefused);
        test(3, "or there are 16", PromiseEdgeTest::siteFull);
        test(4, "A SITE's clock is so much AHEAD: what it was", PromiseEdgeTest::aheadWas);
        test(4, "-1000 if there is none such", () ->
            dueWithoutSite("ahead", NO_CLOCK, (s, site) -> s.ahead(site, 1)));
        test(4, "or it can't be", PromiseEdgeTest::aheadRefused);
        test(9, "PLACE of a tick at a SITE", PromiseEdgeTest::placeOfTick);
        test(9, "-1000000 if there is none such", () ->
            dueWithoutSite("place", NOWHERE, (s, site) -> s.place(site, 0)));
        test(9, "or it can't be", PromiseEdgeTest::placeRefused);
    }

    private static void newObject() {
        StarHide old = sixteen();
        for (int i = 0; i < 10; i++) {
            old.chord(i, 1, 2, 3, 4);
            old.dip(i, 1, 2);
        }
        old.net(0, 5, 5, 8);
        old.even(999);
        old.plan(3, 0, 2000);
        StarHide s = new StarHide();
        for (int what = 0; what <= 4; what++) {
            due("all(" + what + ")", s.all(what), 0);
        }
        due("no site", s.place(0, 0), NOWHERE);
        due("no report", s.inside(0), 0);
        due("no corner", s.corner(0, 0), NOWHERE);
        due("no dip", s.ring(0, 0), 0);
        due("no plan", s.planned(0), -1);
        due("no figure but one", s.figures(), 1);
        due("which fits", s.fitting(), 1);
        due("nothing is bad", s.bad(0), 0);
        due("nothing went", s.calm(), 0);
        due("the speed of its own", s.speed(5), 5);
        due("the miss of dips of its own", s.even(10), 10);
        due("the older one's sites", old.all(0), 16);
        due("the older one's dips", old.all(4), 10);
        due("the older one's figures", old.figures(), 8);
    }

    private static void speedWas() {
        StarHide s = new StarHide();
        int was = 5;
        for (int v = 1; v <= 10; v++) {
            due("speed(" + v + ")", s.speed(v), was);
            due("speed(" + v + ") again", s.speed(v), v);
            was = v;
        }
    }

    private static void speedRefused() {
        StarHide s = new StarHide();
        s.speed(7);
        for (int v : new int[] {0, -1, 11, 12, LOW, HIGH}) {
            due("speed(" + v + ")", s.speed(v), -1);
        }
        due("what it was", s.speed(1), 7);
    }

    private static void siteNumber() {
        StarHide s = new StarHide();
        for (int i = 0; i < 16; i++) {
            due("site", s.site(-i, i), i);
        }
    }

    private static void siteRefused() {
        StarHide s = sitesAt(5);
        due("y too low", s.site(-2001, 0), -1);
        due("y too high", s.site(2001, 0), -1);
        due("x too low", s.site(0, -5001), -1);
        due("x too high", s.site(0, 5001), -1);
        due("y of another one", s.site(5, 0), -1);
        due("all of it", s.site(HIGH, LOW), -1);
        due("one site", s.all(0), 1);
        due("the next one", s.site(-2000, -5000), 1);
        due("and the next", s.site(2000, 5000), 2);
    }

    private static void siteFull() {
        StarHide s = sixteen();
        due("the 17th", s.site(-1, 0), -1);
        due("the 17th, of a taken height", s.site(0, 0), -1);
        due("and again", s.site(-1, 0), -1);
        due("sites", s.all(0), 16);
        StarHide almost = new StarHide();
        for (int i = 0; i < 15; i++) {
            almost.site(i, 0);
        }
        for (int i = 0; i < 15; i++) {
            due("refused ones take no room", almost.site(i, 0), -1);
        }
        due("the 16th", almost.site(15, 0), 15);
    }

    private static void aheadWas() {
        StarHide s = sixteen();
        for (int i = 0; i < 16; i++) {
            due("at first", s.ahead(i, i - 8), 0);
        }
        for (int i = 0; i < 16; i++) {
            due("then", s.ahead(i, -50), i - 8);
            due("then", s.ahead(i, 50), -50);
            due("then", s.ahead(i, 50), 50);
        }
    }

    private static void aheadRefused() {
        StarHide s = sitesAt(0);
        s.ahead(0, 50);
        for (int ticks : new int[] {51, 52, -51, -52, LOW, HIGH, -1000, 1000}) {
            due("ahead(0, " + ticks + ")", s.ahead(0, ticks), NO_CLOCK);
        }
        due("what it was", s.ahead(0, -50), 50);
    }

    private static void placeOfTick() {
        StarHide s = new StarHide();
        s.site(0, 30);
        due("at 0", s.place(0, 0), -30);
        due("at 1", s.place(0, 1), -25);
        due("at -1", s.place(0, -1), -35);
        s.ahead(0, 2);
        due("at 2 by a clock 2 ahead", s.place(0, 2), -30);
        s.speed(10);
        due("at 1000", s.place(0, 1000), 9950);
        due("at -1000", s.place(0, -1000), -10050);
    }

    private static void placeRefused() {
        StarHide s = sitesAt(0);
        s.ahead(0, 50);
        for (int tick : new int[] {1001, 1050, -1001, -1050, LOW, HIGH}) {
            due("place(0, " + tick + ")", s.place(0, tick), NOWHERE);
        }
        due("the last tick, whatever the clock", s.place(0, 1000), 950);
        due("the first tick, whatever the clock", s.place(0, -1000), -1050);
    }

    // ---- 5 to 8

    private static void promisesOfReports() {
        test(5, "A CHORD: true", PromiseEdgeTest::chordTaken);
        test(5, "false if something can't be", PromiseEdgeTest::chordRefused);
        test(5, "false if something can't be: no SITE", () ->
            dueWithoutSite("chord", 0, (s, site) -> bit(s.chord(site, 1, 2, 3, 4))));
        test(6, "A MISS: likewise", PromiseEdgeTest::missTakenOrRefused);
        test(6, "A MISS: likewise: no SITE", () ->
            dueWithoutSite("miss", 0, (s, site) -> bit(s.miss(site, 1, 2))));
        test(7, "CLOUD: likewise", PromiseEdgeTest::cloudTaken);
        test(7, "CLOUD: likewise: no SITE", () ->
            dueWithoutSite("cloud", 0, (s, site) -> bit(s.cloud(site))));
        test(8, "A SITE's REPORT goes: true", PromiseEdgeTest::reportGoes);
        test(8, "false if there is none such", PromiseEdgeTest::noReportGoes);
        test(8, "false if there is none such: no SITE", () ->
            dueWithoutSite("unsay", 0, (s, site) -> bit(s.unsay(site))));
    }

    private static void chordTaken() {
        StarHide s = sixteen();
        for (int i = 0; i < 16; i++) {
            due("chord", s.chord(i, -1000, -1000 + i, 1000 - i, 1000), true);
            due("chords", s.all(1), i + 1);
        }
        due("in another's place", s.chord(15, 0, 0, 0, 0), true);
        due("chords", s.all(1), 16);
    }

    private static void chordRefused() {
        StarHide s = sitesAt(0);
        s.chord(0, -20, -10, 10, 20);
        int[][] wrongs = {{-9, -10, 10, 20}, {-20, 11, 10, 20}, {-20, -10, 21, 20}, {-1001, -10, 10, 20},
            {-20, -10, 10, 1001}, {20, 10, -10, -20}, {-20, -10, 10, 9}, {LOW, LOW, HIGH, HIGH}, {HIGH, 0, 0, LOW},
            {-20, LOW, 10, 20}, {-20, -10, HIGH, 20}, {-20, HIGH, 10, 20}, {-20, -10, LOW, 20}};
        for (int[] t : wrongs) {
            due("chord of " + t[0] + ", " + t[1] + ", " + t[2] + ", " + t[3], s.chord(0, t[0], t[1], t[2], t[3]), false);
        }
        due("the old one's b", s.corner(0, 0), -10);
        due("the old one's c", s.corner(1, 0), 10);
        due("chords", s.all(1), 1);
    }

    private static void missTakenOrRefused() {
        StarHide s = sixteen();
        for (int i = 0; i < 16; i++) {
            due("miss", s.miss(i, i, i), true);
            due("misses", s.all(2), i + 1);
        }
        due("the widest", s.miss(15, -1000, 1000), true);
        int[][] wrongs = {{1, 0}, {-1001, 0}, {0, 1001}, {1000, -1000}, {LOW, HIGH}, {HIGH, LOW}, {1001, 1001},
            {-1001, -1001}};
        for (int[] t : wrongs) {
            due("miss from " + t[0] + " to " + t[1], s.miss(15, t[0], t[1]), false);
        }
        due("misses", s.all(2), 16);
        s.unsay(15);
        due("refused where there is none", s.miss(15, 1, 0), false);
        due("none came", s.all(2), 15);
    }

    private static void cloudTaken() {
        StarHide s = sixteen();
        for (int i = 0; i < 16; i++) {
            due("cloud", s.cloud(i), true);
            due("cloud again", s.cloud(i), true);
            due("clouds", s.all(3), i + 1);
        }
    }

    private static void reportGoes() {
        StarHide s = sitesAt(0, 1, 2);
        s.chord(0, 500, 501, 502, 503);
        s.miss(1, 0, 0);
        s.cloud(2);
        due("bad by two", s.bad(0), 2);
        due("a chord", s.unsay(0), true);
        due("no chord", s.all(1), 0);
        due("nothing inside", s.inside(0), 0);
        due("bad by one", s.bad(0), 1);
        due("a miss", s.unsay(1), true);
        due("no miss", s.all(2), 0);
        due("none bad", s.bad(0), 0);
        due("a cloud", s.unsay(2), true);
        due("no cloud", s.all(3), 0);
        due("the sites stay", s.all(0), 3);
    }

    private static void noReportGoes() {
        StarHide s = sitesAt(0, 1);
        due("never told", s.unsay(0), false);
        s.chord(0, 1, 2, 3, 4);
        due("the other site", s.unsay(1), false);
        due("the chord", s.unsay(0), true);
        due("twice", s.unsay(0), false);
        s.miss(0, 5, 4);
        due("a refused miss is none", s.unsay(0), false);
        s.chord(0, 5, 4, 6, 7);
        due("a refused chord is none", s.unsay(0), false);
        s.dip(0, 1, 2);
        due("a dip is none", s.unsay(0), false);
        due("the dip stays", s.all(4), 1);
    }

    // ---- 10 to 13

    private static void promisesOfFigures() {
        test(10, "One of THE NET's rows (0 x, 1 y, 2 w, 3 h): true", PromiseEdgeTest::rowsOfTheNet);
        test(10, "false if it can't be", PromiseEdgeTest::rowRefused);
        test(11, "How many FIGURES THE NET has", PromiseEdgeTest::howManyFigures);
        test(12, "Of a FIGURE: 0 x, 1 y, 2 w, 3 h", PromiseEdgeTest::ofAFigure);
        test(12, "-1000000 if there is none such", PromiseEdgeTest::noSuchFigure);
        test(12, "or for others", PromiseEdgeTest::figureForOthers);
        test(13, "Whether a FIGURE AGREES with a SITE's REPORT (1, 0; without a REPORT 1)", PromiseEdgeTest::agrees);
        test(13, "NONE if there are none such: SITE", () ->
            dueWithoutSite("agrees", -1, (s, site) -> s.agrees(0, site)));
        test(13, "NONE if there are none such: FIGURE", PromiseEdgeTest::noFigureAgrees);
    }

    private static void rowsOfTheNet() {
        for (int row = 0; row < 4; row++) {
            StarHide s = new StarHide();
            due("row " + row, s.net(row, 40, 2, 3), true);
            for (int other = 0; other < 4; other++) {
                int first = other < 2 ? 0 : 100;
                due("row " + other + " of the first", s.figure(0, other), other == row ? 40 : first);
                due("row " + other + " of the last", s.figure(2, other), other == row ? 44 : first);
            }
        }
    }

    private static void rowRefused() {
        StarHide s = new StarHide();
        dueOutside("net of row", 4, 0, row -> bit(s.net(row, 40, 2, 3)));
        due("n", s.net(0, 40, 2, 9), false);
        due("by", s.net(0, 40, 1001, 3), false);
        due("from", s.net(0, 15001, 2, 3), false);
        due("the last of w", s.net(2, 1000, 501, 3), false);
        due("the last of h", s.net(3, 1000, 501, 3), false);
        due("figures", s.figures(), 1);
        due("the last of w, one less", s.net(2, 1000, 500, 3), true);
        due("the last of h, one less", s.net(3, 1000, 500, 3), true);
        due("figures", s.figures(), 9);
    }

    private static void howManyFigures() {
        StarHide s = new StarHide();
        due("at first", s.figures(), 1);
        int many = 1;
        for (int row = 0; row < 4; row++) {
            s.net(row, 1, 1, 8);
            many *= 8;
            due("rows of 8 up to " + row, s.figures(), many);
        }
        s.net(0, 1, 1, 7);
        due("7 of x", s.figures(), 3584);
        s.net(3, 1, 1, 1);
        due("1 of h", s.figures(), 448);
        s.net(3, 1, 1, 9);
        due("a refused row", s.figures(), 448);
    }

    private static void ofAFigure() {
        StarHide s = new StarHide();
        s.net(0, -15000, 1000, 2);
        s.net(1, -2000, 1000, 2);
        s.net(2, 1, 1000, 2);
        s.net(3, 2, 1000, 2);
        int[] first = {-15000, -2000, 1, 2};
        for (int what = 0; what < 4; what++) {
            due("of the first " + what, s.figure(0, what), first[what]);
            due("of the last " + what, s.figure(15, what), first[what] + 1000);
        }
    }

    private static void noSuchFigure() {
        for (int what = 0; what < 4; what++) {
            int of = what;
            StarHide one = new StarHide();
            dueOutside("figure", 1, NOWHERE, f -> (long) one.figure(f, of));
            StarHide many = new StarHide();
            for (int row = 0; row < 4; row++) {
                many.net(row, 1, 1, 8);
            }
            dueOutside("figure", 4096, NOWHERE, f -> (long) many.figure(f, of));
            many.net(0, 1, 1, 1);
            due("the last of fewer", many.figure(511, of), of == 0 ? 1 : 8);
            due("past the last of fewer", many.figure(512, of), NOWHERE);
        }
    }

    private static void figureForOthers() {
        StarHide s = new StarHide();
        dueOutside("figure(0) for", 4, NOWHERE, what -> (long) s.figure(0, what));
        dueOutside("figure(1) for", 4, NOWHERE, what -> (long) s.figure(1, what));
    }

    private static void agrees() {
        StarHide s = sixteen();
        s.net(3, 2000, 1, 1);
        for (int i = 0; i < 16; i++) {
            due("without a report, " + i, s.agrees(0, i), 1);
            s.miss(i, 0, 0);
            due("with a false one, " + i, s.agrees(0, i), 0);
        }
        for (int i = 0; i < 16; i++) {
            due("the others do not change it, " + i, s.agrees(0, i), 0);
            s.miss(i, 200, 300);
            due("with a true one, " + i, s.agrees(0, i), 1);
            s.unsay(i);
            due("without it again, " + i, s.agrees(0, i), 1);
        }
    }

    private static void noFigureAgrees() {
        StarHide one = sitesAt(0);
        dueOutside("agrees", 1, -1, f -> (long) one.agrees(f, 0));
        for (int row = 0; row < 4; row++) {
            one.net(row, 1, 1, 8);
        }
        due("the last", one.agrees(4095, 0), 1);
        dueOutside("agrees", 4096, -1, f -> (long) one.agrees(f, 0));
        one.net(1, 1, 1, 1);
        due("the last of fewer", one.agrees(511, 0), 1);
        due("past the last of fewer", one.agrees(512, 0), -1);
        due("neither of them", one.agrees(512, 1), -1);
    }

    // ---- 14 to 16

    /** Figures 10, 20 .. 80 half wide at one height, and two sites, one of them there. */
    private static StarHide eightWidths() {
        StarHide s = sitesAt(0, 1000);
        s.net(2, 10, 10, 8);
        return s;
    }

    private static void promisesOfFitting() {
        test(14, "How many FIGURES FIT", PromiseEdgeTest::howManyFit);
        test(15, "The k-th FIGURE that FITS (from 0 on)", PromiseEdgeTest::kThFit);
        test(15, "NONE if there is none such", PromiseEdgeTest::noneThatFits);
        test(16, "The least (greatest false) or greatest w times h of those that FIT", PromiseEdgeTest::sizes);
        test(16, "NONE without any", PromiseEdgeTest::sizeWithoutAny);
    }

    private static void howManyFit() {
        StarHide s = eightWidths();
        due("all", s.fitting(), 8);
        s.miss(0, 40, 100);
        due("up to 40", s.fitting(), 4);
        s.miss(0, 10, 100);
        due("one", s.fitting(), 1);
        s.miss(0, 9, 100);
        due("none", s.fitting(), 0);
        s.unsay(0);
        due("all again", s.fitting(), 8);
        for (int row = 0; row < 4; row++) {
            s.net(row, 1, 1, 8);
        }
        due("the most", s.fitting(), 4096);
        s.chord(1, -1000, 0, 0, 1000);
        due("none of the most", s.fitting(), 0);
    }

    private static void kThFit() {
        StarHide s = eightWidths();
        for (int k = 0; k < 8; k++) {
            due("of all " + k, s.fits(k), k);
        }
        s.chord(0, -1000, -50, 50, 1000);
        for (int k = 0; k < 4; k++) {
            due("of those from 50 on " + k, s.fits(k), 4 + k);
        }
        due("past them", s.fits(4), -1);
        s.unsay(0);
        for (int row = 0; row < 4; row++) {
            s.net(row, 1, 1, 8);
        }
        due("the last of the most", s.fits(4095), 4095);
        due("past the most", s.fits(4096), -1);
    }

    private static void noneThatFits() {
        StarHide s = eightWidths();
        dueOutside("fits", 8, -1, k -> (long) s.fits(k));
        s.miss(0, 9, 100);
        dueOutside("fits without any", 0, -1, k -> (long) s.fits(k));
    }

    private static void sizes() {
        StarHide s = eightWidths();
        s.net(3, 7, 3, 2);
        due("least", s.size(false), 70);
        due("greatest", s.size(true), 800);
        s.chord(0, -1000, -50, 50, 1000);
        due("least from 50 on", s.size(false), 350);
        s.miss(0, 40, 100);
        due("greatest up to 40", s.size(true), 400);
        s.chord(0, -30, -30, 30, 30);
        s.net(3, 7, 3, 1);
        due("one alone, least", s.size(false), 210);
        due("one alone, greatest", s.size(true), 210);
        s.unsay(0);
        s.net(2, 1, 1, 1);
        s.net(3, 1, 1, 1);
        due("the smallest that can be", s.size(false), 1);
        s.net(2, 2000, 1, 1);
        s.net(3, 2000, 1, 1);
        due("the largest that can be", s.size(true), 4000000);
        // At height 30 10 by 100 and 14 by 42 are both between 9 and 10 half wide: the first is greatest.
        StarHide t = sitesAt(30);
        t.net(2, 10, 4, 2);
        t.net(3, 42, 58, 2);
        t.chord(0, -10, -9, 9, 10);
        due("two of four", t.fitting(), 2);
        due("least, if the last has it", t.size(false), 588);
        due("greatest, if the first has it", t.size(true), 1000);
    }

    private static void sizeWithoutAny() {
        StarHide s = eightWidths();
        s.miss(0, 9, 100);
        due("least", s.size(false), -1);
        due("greatest", s.size(true), -1);
        s.miss(0, 10, 100);
        due("least of one", s.size(false), 1000);
        due("greatest of one", s.size(true), 1000);
    }

    // ---- 17 to 19

    private static void promisesOfBadAndClocks() {
        test(17, "How many REPORTS are BAD; and by which FIGURE (what 1)", PromiseEdgeTest::howManyBad);
        test(17, "NONE for others", PromiseEdgeTest::badForOthers);
        test(18, "Whether a SITE's REPORT is BAD: 1, 0 (also without)", PromiseEdgeTest::isBad);
        test(18, "NONE if there is none such", () ->
            dueWithoutSite("isBad", -1, (s, site) -> s.isBad(site)));
        test(19, "THE CLOCKS of a SITE: 0 how many, 1 the least, 2 the greatest", PromiseEdgeTest::clocks);
        test(19, "-1000 if there are none", PromiseEdgeTest::noClocks);
        test(19, "there is none such", PromiseEdgeTest::clocksOfNoSite);
        test(19, "or for others", PromiseEdgeTest::clocksForOthers);
        test(19, "(0 for what 0 if there are none)", PromiseEdgeTest::noneOfThem);
    }

    private static void howManyBad() {
        StarHide s = new StarHide();
        due("nothing told", s.bad(0), 0);
        due("by the first", s.bad(1), 0);
        StarHide e = eightWidths();
        e.chord(0, -80, -80, 80, 80);
        due("none", e.bad(0), 0);
        due("by the last", e.bad(1), 7);
        e.chord(1, -80, 0, 0, 80);
        due("where none goes", e.bad(0), 1);
        due("still by the last", e.bad(1), 7);
        e.chord(0, -85, -85, 85, 85);
        due("both", e.bad(0), 2);
        due("by the first of all", e.bad(1), 0);
        e.cloud(0);
        e.cloud(1);
        due("clouds are never bad", e.bad(0), 0);
        badAskedFirst();
    }

    /** Right after it was told, with nothing asked between. */
    private static void badAskedFirst() {
        StarHide e = eightWidths();
        e.chord(0, -80, -80, 80, 80);
        due("by the last", e.bad(1), 7);
        e.chord(0, -70, -70, 70, 70);
        due("by the last but one", e.bad(1), 6);
        e.miss(1, 0, 0);
        e.chord(0, -60, -60, 60, 60);
        due("not bad", e.isBad(0), 0);
        e.miss(0, 0, 0);
        due("bad", e.isBad(0), 1);
    }

    private static void badForOthers() {
        StarHide s = new StarHide();
        dueOutside("bad of nothing", 2, -1, what -> (long) s.bad(what));
        StarHide e = eightWidths();
        e.miss(0, 0, 0);
        dueOutside("bad", 2, -1, what -> (long) e.bad(what));
    }

    private static void isBad() {
        StarHide s = sixteen();
        for (int i = 0; i < 16; i++) {
            due("without a report", s.isBad(i), 0);
        }
        // Goes over the sites 0 to 9 alone.
        for (int i = 0; i < 16; i++) {
            s.miss(i, 0, 0);
        }
        due("ten", s.bad(0), 10);
        for (int i = 0; i < 16; i++) {
            due("bad where it goes, " + i, s.isBad(i), i < 10 ? 1 : 0);
        }
        s.cloud(0);
        due("a cloud", s.isBad(0), 0);
        s.unsay(9);
        due("none any more", s.isBad(9), 0);
        due("eight", s.bad(0), 8);
    }

    private static void dueClocks(StarHide s, int many, int least, int greatest) {
        due("how many", s.clock(0, 0), many);
        due("the least", s.clock(0, 1), least);
        due("the greatest", s.clock(0, 2), greatest);
    }

    private static void clocks() {
        StarHide s = eightWidths();
        dueClocks(s, 101, -50, 50);
        s.cloud(0);
        dueClocks(s, 101, -50, 50);
        // 80 half wide: the miss at 0 is never true by that one, but by 10 from 10 on.
        s.miss(0, 0, 0);
        dueClocks(s, 82, -50, 50);
        s.net(2, 50, 1, 1);
        dueClocks(s, 2, -50, 50);
        s.net(2, 51, 1, 1);
        dueClocks(s, 0, NO_CLOCK, NO_CLOCK);
        s.chord(0, -51, -51, 51, 51);
        dueClocks(s, 1, 0, 0);
        s.chord(0, -1, -1, 101, 101);
        dueClocks(s, 1, 50, 50);
        s.chord(0, -101, -101, 1, 1);
        dueClocks(s, 1, -50, -50);
        s.chord(0, -1000, 0, 0, 1000);
        dueClocks(s, 101, -50, 50);
    }

    private static void noClocks() {
        StarHide s = eightWidths();
        s.chord(0, 0, 0, 0, 0);
        due("least", s.clock(0, 1), NO_CLOCK);
        due("greatest", s.clock(0, 2), NO_CLOCK);
        s.cloud(0);
        s.chord(1, 0, 0, 0, 0);
        due("least, for another's fault", s.clock(0, 1), NO_CLOCK);
        due("greatest, for another's fault", s.clock(0, 2), NO_CLOCK);
    }

    private static void clocksOfNoSite() {
        for (int what = 0; what <= 2; what++) {
            int of = what;
            dueWithoutSite("clock for " + what, NO_CLOCK, (s, site) -> s.clock(site, of));
        }
    }

    private static void clocksForOthers() {
        StarHide s = eightWidths();
        dueOutside("clock for", 3, NO_CLOCK, what -> (long) s.clock(0, what));
        s.chord(0, 0, 0, 0, 0);
        dueOutside("clock without any for", 3, NO_CLOCK, what -> (long) s.clock(0, what));
        dueOutside("clock of no site for", 3, NO_CLOCK, what -> (long) s.clock(2, what));
    }

    private static void noneOfThem() {
        StarHide s = eightWidths();
        s.chord(0, 0, 0, 0, 0);
        due("how many", s.clock(0, 0), 0);
        due("how many of the other", s.clock(1, 0), 0);
    }

    // ---- 20 to 22

    private static void promisesOfInside() {
        test(20, "0 how many corners (1 or 2 if all is a place, or in one line", PromiseEdgeTest::placeOrLine);
        test(20, "0 without a CHORD)", PromiseEdgeTest::withoutAChord);
        test(20, "1 its area twice", PromiseEdgeTest::areas);
        test(20, "NONE for others", PromiseEdgeTest::insideForOthers);
        test(21, "Corner k: 0 the PLACE, 1 the height", PromiseEdgeTest::corners);
        test(21, "-1000000 if there is none such", PromiseEdgeTest::noSuchCorner);
        test(21, "or for others", PromiseEdgeTest::cornerForOthers);
        test(22, "Whether a MISS quarrels with INSIDE: some PLACE of it, from a to b, is in that",
            PromiseEdgeTest::quarrels);
        test(22, "at its border too: 1, 0", PromiseEdgeTest::quarrelsAtTheBorder);
        test(22, "NONE if the SITE has no MISS", PromiseEdgeTest::quarrelsWithoutAMiss);
        test(22, "NONE if the SITE has no MISS: no SITE", () ->
            dueWithoutSite("quarrels", -1, (s, site) -> s.quarrels(site)));
    }

    private static void put(StarHide s, int site, int b, int c) {
        due("chord", s.chord(site, b, b, c, c), true);
    }

    private static void placeOrLine() {
        StarHide s = sitesAt(0, 10, 20);
        put(s, 0, 5, 5);
        due("a place", s.inside(0), 1);
        put(s, 0, 5, 6);
        due("a level line", s.inside(0), 2);
        put(s, 0, 5, 5);
        put(s, 1, 5, 5);
        due("an upright line", s.inside(0), 2);
        put(s, 2, 5, 5);
        due("an upright line of three", s.inside(0), 2);
        put(s, 1, 6, 6);
        put(s, 2, 7, 7);
        due("a slanting line of three", s.inside(0), 2);
        put(s, 2, 8, 8);
        due("one place off the line", s.inside(0), 3);
        put(s, 2, 7, 8);
        due("one end off the line", s.inside(0), 3);
    }

    private static void withoutAChord() {
        due("nothing at all", new StarHide().inside(0), 0);
        StarHide s = sitesAt(0, 1, 2);
        due("no report", s.inside(0), 0);
        s.miss(0, 1, 2);
        s.cloud(1);
        due("a miss and a cloud", s.inside(0), 0);
        s.dip(2, 1, 2);
        due("a dip", s.inside(0), 0);
        put(s, 2, 0, 0);
        due("a chord", s.inside(0), 1);
        s.cloud(2);
        due("a cloud in its place", s.inside(0), 0);
        due("then no area", s.inside(1), 0);
    }

    private static void areas() {
        StarHide s = sitesAt(0, 10);
        put(s, 0, 5, 5);
        due("a place", s.inside(1), 0);
        put(s, 0, 5, 9);
        due("a level line", s.inside(1), 0);
        put(s, 1, 3, 3);
        due("a triangle", s.inside(1), 40);
        put(s, 1, 3, 6);
        due("four corners", s.inside(1), 70);
        put(s, 0, 5, 5);
        put(s, 1, 7, 7);
        due("a slanting line", s.inside(1), 0);
    }

    private static void insideForOthers() {
        StarHide s = sitesAt(0);
        dueOutside("inside of nothing for", 2, -1, what -> (long) s.inside(what));
        put(s, 0, 1, 2);
        dueOutside("inside for", 2, -1, what -> (long) s.inside(what));
    }

    private static void corners() {
        StarHide s = sitesAt(-7, 9);
        put(s, 0, -3, 4);
        due("place of the first", s.corner(0, 0), -3);
        due("height of the first", s.corner(0, 1), -7);
        due("place of the second", s.corner(1, 0), 4);
        due("height of the second", s.corner(1, 1), -7);
        put(s, 1, 2, 2);
        due("place of the third", s.corner(2, 0), 2);
        due("height of the third", s.corner(2, 1), 9);
    }

    private static void noSuchCorner() {
        StarHide s = sitesAt(0, 10);
        for (int what = 0; what <= 1; what++) {
            int of = what;
            s.unsay(0);
            s.unsay(1);
            dueOutside("corner of nothing", 0, NOWHERE, k -> (long) s.corner(k, of));
            put(s, 0, 5, 5);
            dueOutside("corner of a place", 1, NOWHERE, k -> (long) s.corner(k, of));
            put(s, 0, 5, 6);
            dueOutside("corner of a line", 2, NOWHERE, k -> (long) s.corner(k, of));
            put(s, 1, 5, 6);
            dueOutside("corner of four", 4, NOWHERE, k -> (long) s.corner(k, of));
        }
    }

    private static void cornerForOthers() {
        StarHide s = sitesAt(0);
        dueOutside("corner of nothing for", 2, NOWHERE, what -> (long) s.corner(0, what));
        put(s, 0, 1, 2);
        dueOutside("corner for", 2, NOWHERE, what -> (long) s.corner(0, what));
    }

    private static int quarrelOf(StarHide s, int a, int b) {
        due("miss", s.miss(2, a, b), true);
        return s.quarrels(2);
    }

    private static void quarrels() {
        StarHide s = sitesAt(0, 100, 50, 101, -1);
        due("with nothing", quarrelOf(s, -1000, 1000), 0);
        put(s, 0, -100, 100);
        due("with a line below", quarrelOf(s, -1000, 1000), 0);
        put(s, 1, -100, 100);
        due("in it", quarrelOf(s, 0, 0), 1);
        due("over all of it", quarrelOf(s, -1000, 1000), 1);
        due("before it", quarrelOf(s, -1000, -101), 0);
        due("after it", quarrelOf(s, 101, 1000), 0);
        s.miss(3, -1000, 1000);
        due("one above it", s.quarrels(3), 0);
        s.miss(4, -1000, 1000);
        due("one below it", s.quarrels(4), 0);
        s.unsay(1);
        due("not any more", quarrelOf(s, 0, 0), 0);
        put(s, 1, 1000, 1000);
        due("a narrow part: -100 + 550 to 550", quarrelOf(s, 449, 449), 0);
        due("a narrow part, in it", quarrelOf(s, 450, 550), 1);
        due("past the narrow part", quarrelOf(s, 551, 551), 0);
        s.ahead(2, 1);
        due("the clock takes it back into it", s.quarrels(2), 1);
        s.speed(10);
        due("all grows with the speed: 551 less 1 is 5500", s.quarrels(2), 1);
        s.ahead(2, 0);
        due("5510 is beyond", s.quarrels(2), 0);
        quarrelsWithManyCorners();
    }

    /** Borders that do not come to the miss's height have no say. */
    private static void quarrelsWithManyCorners() {
        StarHide s = sitesAt(0, 100, 200, 50, 150, 250, -50);
        put(s, 0, -10, 10);
        put(s, 1, -100, 100);
        put(s, 2, -10, 10);
        due("six corners", s.inside(0), 6);
        for (int site = 3; site <= 4; site++) {
            int[][] in = {{-1000, 1000}, {-1000, -55}, {-1000, 0}, {0, 0}, {0, 1000}, {55, 1000}, {-55, -55}, {55, 55}};
            for (int[] t : in) {
                s.miss(site, t[0], t[1]);
                due("from " + t[0] + " to " + t[1] + " at " + site, s.quarrels(site), 1);
            }
            int[][] out = {{-1000, -56}, {56, 1000}, {-56, -56}, {56, 56}};
            for (int[] t : out) {
                s.miss(site, t[0], t[1]);
                due("from " + t[0] + " to " + t[1] + " at " + site, s.quarrels(site), 0);
            }
        }
        for (int site = 5; site <= 6; site++) {
            s.miss(site, -1000, 1000);
            due("above and below", s.quarrels(site), 0);
        }
    }

    private static void quarrelsAtTheBorder() {
        StarHide s = sitesAt(0, 100, 50);
        put(s, 0, -100, 100);
        put(s, 1, -100, 100);
        due("up to its left", quarrelOf(s, -1000, -100), 1);
        due("up to one less", quarrelOf(s, -1000, -101), 0);
        due("from its right on", quarrelOf(s, 100, 1000), 1);
        due("from one more on", quarrelOf(s, 101, 1000), 0);
        due("just at its left", quarrelOf(s, -100, -100), 1);
        due("just at its right", quarrelOf(s, 100, 100), 1);
        // The borders of a slanting line are one: at 50 it is at 1.
        put(s, 0, 0, 0);
        put(s, 1, 2, 2);
        due("at the line", quarrelOf(s, 1, 1), 1);
        due("left of it", quarrelOf(s, 0, 0), 0);
        due("right of it", quarrelOf(s, 2, 2), 0);
        due("up to it", quarrelOf(s, 0, 1), 1);
        due("from it on", quarrelOf(s, 1, 2), 1);
        // Now it is at a half: between two ticks.
        put(s, 1, 1, 1);
        due("left of the half", quarrelOf(s, -5, 0), 0);
        due("right of the half", quarrelOf(s, 1, 5), 0);
        due("over the half", quarrelOf(s, 0, 1), 1);
        // The same, with the heights as near as can be.
        StarHide near = sitesAt(0, 2, 1);
        put(near, 0, 0, 0);
        put(near, 1, 1, 1);
        due("left of the half", quarrelOf(near, -5, 0), 0);
        due("right of the half", quarrelOf(near, 1, 5), 0);
        due("over the half", quarrelOf(near, 0, 1), 1);
        // A border from 0 to 1 at one side, from 3 to 2 at the other: a half and two and a half.
        put(s, 0, 0, 3);
        put(s, 1, 1, 2);
        due("left of it", quarrelOf(s, 0, 0), 0);
        due("in it", quarrelOf(s, 1, 1), 1);
        due("in it too", quarrelOf(s, 2, 2), 1);
        due("right of it", quarrelOf(s, 3, 3), 0);
    }

    private static void quarrelsWithoutAMiss() {
        StarHide s = sitesAt(0, 100, 50);
        put(s, 0, -100, 100);
        put(s, 1, -100, 100);
        due("a chord", s.quarrels(0), -1);
        due("no report", s.quarrels(2), -1);
        s.cloud(2);
        due("a cloud", s.quarrels(2), -1);
        s.miss(2, 1, 0);
        due("a refused miss", s.quarrels(2), -1);
        s.miss(2, 0, 0);
        due("a miss", s.quarrels(2), 1);
        s.unsay(2);
        due("a miss that went", s.quarrels(2), -1);
    }

    // ---- 23 to 26

    private static void promisesOfDips() {
        test(23, "A DIP: how many there are", PromiseEdgeTest::howManyDips);
        test(23, "NONE if something can't be", PromiseEdgeTest::dipRefused);
        test(23, "NONE if something can't be: no SITE", () ->
            dueWithoutSite("dip", -1, (s, site) -> s.dip(site, 1, 2)));
        test(23, "or there are 10", PromiseEdgeTest::tenDips);
        test(24, "MISS of DIPS: what it was", PromiseEdgeTest::evenWas);
        test(24, "NONE if it can't be", PromiseEdgeTest::evenRefused);
        test(25, "All DIPS go: how many there were", PromiseEdgeTest::allDipsGo);
        test(26, "THE RING of a FIGURE: 0 how many DIPS are EVEN", PromiseEdgeTest::howManyEven);
        test(26, "1 the least, 2 the greatest square", PromiseEdgeTest::leastAndGreatestSquare);
        test(26, "NONE for 1, 2 if not all are", PromiseEdgeTest::notAllAre);
        test(26, "or there are no DIPS", PromiseEdgeTest::ringWithoutDips);
        test(26, "if there is none such", PromiseEdgeTest::ringOfNoFigure);
        test(26, "or for others", PromiseEdgeTest::ringForOthers);
    }

    private static void howManyDips() {
        StarHide s = sixteen();
        for (int i = 1; i <= 10; i++) {
            due("dip", s.dip(16 - i, -i, i), i);
            due("all", s.all(4), i);
        }
    }

    private static void dipRefused() {
        StarHide s = sitesAt(0);
        s.dip(0, 1, 2);
        int[][] wrongs = {{1, 1}, {2, 1}, {-1001, 1}, {1, 1001}, {1000, 1001}, {-1001, -1000}, {LOW, HIGH}, {HIGH, LOW},
            {1000, 1000}, {-1000, -1000}};
        for (int[] t : wrongs) {
            due("dip from " + t[0] + " to " + t[1], s.dip(0, t[0], t[1]), -1);
        }
        due("dips", s.all(4), 1);
        due("the least", s.dip(0, -1000, -999), 2);
        due("the last", s.dip(0, 999, 1000), 3);
    }

    private static void tenDips() {
        StarHide s = sitesAt(0, 1);
        for (int i = 0; i < 10; i++) {
            s.dip(0, -5, 5);
        }
        due("the 11th", s.dip(0, -5, 5), -1);
        due("the 11th elsewhere", s.dip(1, -50, 50), -1);
        due("dips", s.all(4), 10);
        due("the greatest square is an old one's", s.ring(0, 2), 25);
        due("ten go", s.calm(), 10);
        due("the first anew", s.dip(1, -50, 50), 1);
        due("by its own places", s.ring(0, 2), 2501);
    }

    private static void evenWas() {
        StarHide s = new StarHide();
        due("at first", s.even(0), 10);
        due("0", s.even(1000), 0);
        due("1000", s.even(1000), 1000);
        due("1000 again", s.even(1), 1000);
        due("1", s.even(10), 1);
    }

    private static void evenRefused() {
        StarHide s = new StarHide();
        s.even(1000);
        for (int miss : new int[] {-1, -2, 1001, 1002, LOW, HIGH}) {
            due("even(" + miss + ")", s.even(miss), -1);
        }
        due("what it was", s.even(0), 1000);
        due("-1 below 0", s.even(-1), -1);
        due("what it was", s.even(0), 0);
    }

    private static void allDipsGo() {
        StarHide s = sitesAt(0);
        due("none", s.calm(), 0);
        s.dip(0, 1, 2);
        due("one", s.calm(), 1);
        due("none is left", s.all(4), 0);
        due("none again", s.calm(), 0);
        for (int i = 0; i < 11; i++) {
            s.dip(0, 1, 2);
        }
        s.even(3);
        s.chord(0, 1, 2, 3, 4);
        due("ten", s.calm(), 10);
        due("no ring", s.ring(0, 0), 0);
        due("what is even stays", s.even(3), 3);
        due("reports stay", s.all(1), 1);
        due("sites stay", s.all(0), 1);
    }

    private static void howManyEven() {
        StarHide s = sitesAt(0);
        s.net(0, 0, 5, 2);
        due("none of none", s.ring(0, 0), 0);
        s.dip(0, 100, 200);
        due("none of one", s.ring(0, 0), 0);
        s.dip(0, -20, 30);
        due("one of two", s.ring(0, 0), 1);
        s.dip(0, -20, 40);
        due("one of three", s.ring(0, 0), 1);
        due("two of three by the other", s.ring(1, 0), 2);
        s.calm();
        for (int i = 1; i <= 10; i++) {
            s.dip(0, -i, i);
            due("all of " + i, s.ring(0, 0), i);
        }
    }

    private static void leastAndGreatestSquare() {
        StarHide s = sitesAt(0, 4);
        s.dip(0, -3, 5);
        due("least of one", s.ring(0, 1), 9);
        due("greatest of one", s.ring(0, 2), 25);
        s.dip(1, -1, 1);
        due("least, if the first has it", s.ring(0, 1), 9);
        s.dip(1, -7, 8);
        due("greatest, if the last has it", s.ring(0, 2), 80);
        s.dip(0, -2, 2);
        due("least, if the last has it", s.ring(0, 1), 4);
        s.net(1, 4, 1, 1);
        due("the figure's height counts", s.ring(0, 1), 1);
        due("the figure's height counts", s.ring(0, 2), 64);
        s.calm();
        s.net(1, 0, 1, 1);
        s.dip(0, -1, 0);
        due("the least that can be", s.ring(0, 1), 0);
        due("one", s.ring(0, 2), 1);
    }

    private static void notAllAre() {
        StarHide s = sitesAt(0);
        s.dip(0, -20, 30);
        due("all", s.ring(0, 1), 400);
        due("all", s.ring(0, 2), 900);
        s.dip(0, -20, 31);
        due("one not", s.ring(0, 1), -1);
        due("one not", s.ring(0, 2), -1);
        due("but one is", s.ring(0, 0), 1);
        s.calm();
        s.dip(0, -20, 31);
        due("none", s.ring(0, 1), -1);
        due("none", s.ring(0, 2), -1);
        due("none is", s.ring(0, 0), 0);
    }

    private static void ringWithoutDips() {
        StarHide s = new StarHide();
        due("least", s.ring(0, 1), -1);
        due("greatest", s.ring(0, 2), -1);
        due("how many", s.ring(0, 0), 0);
        StarHide t = sitesAt(0);
        t.dip(0, -1, 1);
        t.calm();
        due("least after calm", t.ring(0, 1), -1);
        due("greatest after calm", t.ring(0, 2), -1);
    }

    private static void ringOfNoFigure() {
        StarHide s = sitesAt(0);
        s.dip(0, -1, 1);
        for (int what = 0; what <= 2; what++) {
            int of = what;
            dueOutside("ring", 1, -1, f -> s.ring(f, of));
        }
        for (int row = 0; row < 4; row++) {
            s.net(row, 1, 1, 8);
        }
        for (int what = 0; what <= 2; what++) {
            int of = what;
            dueOutside("ring of the most", 4096, -1, f -> s.ring(f, of));
        }
        s.even(1000);
        due("the last one's", s.ring(4095, 0), 1);
    }

    private static void ringForOthers() {
        StarHide s = sitesAt(0);
        dueOutside("ring without dips for", 3, -1, what -> s.ring(0, what));
        s.dip(0, -1, 1);
        dueOutside("ring for", 3, -1, what -> s.ring(0, what));
        dueOutside("ring of no figure for", 3, -1, what -> s.ring(1, what));
    }

    // ---- 27 to 29

    private static void promisesOfPlans() {
        test(27, "THE PLAN: the greatest gap", PromiseEdgeTest::greatestGap);
        test(27, "NONE if there are not so many SITES in the band", PromiseEdgeTest::notSoManySites);
        test(27, "n is below 1", PromiseEdgeTest::nBelowOne);
        test(27, "or the band can't be (from below to, -2000 .. 2000)", PromiseEdgeTest::noSuchBand);
        test(28, "The i-th SITE of the latest plan() that was not refused, from below", PromiseEdgeTest::planned);
        test(28, "NONE if there is none such", PromiseEdgeTest::noneIsPlanned);
        test(29, "Of all: 0 SITES, 1 CHORDS, 2 MISSES, 3 CLOUDS, 4 DIPS", PromiseEdgeTest::ofAll);
        test(29, "NONE for others", PromiseEdgeTest::allForOthers);
    }

    private static void greatestGap() {
        StarHide s = sitesAt(25, 75, 50);
        due("below and above", s.plan(1, 0, 100), 50);
        due("within", s.plan(2, 25, 75), 25);
        due("at the lower end alone", s.plan(1, 25, 40), 15);
        due("at the upper end alone", s.plan(1, 10, 25), 15);
        due("the narrowest", s.plan(1, 75, 76), 1);
        due("the widest", s.plan(3, -2000, 2000), 2025);
    }

    private static void notSoManySites() {
        due("no site at all", new StarHide().plan(1, -2000, 2000), -1);
        StarHide s = sitesAt(0, 10, 20);
        due("three of three", s.plan(3, 0, 20), 10);
        due("four of three", s.plan(4, 0, 20), -1);
        due("three of two", s.plan(3, 0, 19), -1);
        due("two of two", s.plan(2, 0, 19), 10);
        due("three of two", s.plan(3, 1, 20), -1);
        due("one of none", s.plan(1, 11, 19), -1);
        due("one of one", s.plan(1, 11, 20), 9);
        due("the greatest int", s.plan(HIGH, -2000, 2000), -1);
        due("so many that they come round", s.plan((1 << 28) + 1, -2000, 2000), -1);
        StarHide full = sixteen();
        due("sixteen", full.plan(16, 0, 150), 10);
        due("seventeen", full.plan(17, 0, 150), -1);
    }

    private static void nBelowOne() {
        StarHide s = sitesAt(0, 10, 20);
        for (int n : new int[] {0, -1, -2, LOW, LOW + 1}) {
            due("plan(" + n + ")", s.plan(n, 0, 20), -1);
        }
        due("none of none", s.plan(0, 11, 19), -1);
        due("one", s.plan(1, 0, 20), 10);
    }

    private static void noSuchBand() {
        StarHide s = sitesAt(-2000, 0, 2000);
        due("the widest", s.plan(3, -2000, 2000), 2000);
        due("too low", s.plan(1, -2001, 2000), -1);
        due("too high", s.plan(1, -2000, 2001), -1);
        due("all too low", s.plan(1, -2002, -2001), -1);
        due("all too high", s.plan(1, 2001, 2002), -1);
        due("one height, with a site", s.plan(1, 0, 0), -1);
        due("from above to", s.plan(1, 1, 0), -1);
        due("from one below to", s.plan(1, 0, 1), 1);
        due("the lowest", s.plan(1, -2000, -1999), 1);
        due("the highest", s.plan(1, 1999, 2000), 1);
        due("the extremes", s.plan(1, LOW, HIGH), -1);
        due("the extremes the other way", s.plan(1, HIGH, LOW), -1);
        due("the least int", s.plan(1, LOW, 0), -1);
        due("the greatest int", s.plan(1, 0, HIGH), -1);
    }

    private static void duePlanned(StarHide s, int... sites) {
        for (int i = 0; i < sites.length; i++) {
            due("planned " + i, s.planned(i), sites[i]);
        }
        due("no more", s.planned(sites.length), -1);
    }

    private static void planned() {
        StarHide s = sitesAt(20, 0, 10);
        s.plan(3, 0, 20);
        duePlanned(s, 1, 2, 0);
        s.plan(4, 0, 20);
        duePlanned(s, 1, 2, 0);
        s.plan(0, 0, 20);
        duePlanned(s, 1, 2, 0);
        s.plan(1, 20, 0);
        duePlanned(s, 1, 2, 0);
        s.plan(1, -2001, 20);
        duePlanned(s, 1, 2, 0);
        s.plan(1, 11, 19);
        duePlanned(s, 1, 2, 0);
        s.plan(1, 0, 20);
        duePlanned(s, 2);
        s.site(5, 0);
        s.site(15, 0);
        duePlanned(s, 2);
        s.plan(5, 0, 20);
        duePlanned(s, 1, 3, 2, 4, 0);
        s.plan(2, 0, 20);
        // 0 and 10, 5 and 10 and others leave 10: the lower ones.
        duePlanned(s, 1, 2);
    }

    private static void noneIsPlanned() {
        StarHide s = sitesAt(0, 10, 20);
        dueOutside("planned without a plan", 0, -1, i -> (long) s.planned(i));
        due("refused", s.plan(4, 0, 20), -1);
        due("planned after a refused one", s.planned(0), -1);
        s.plan(2, 0, 20);
        dueOutside("planned", 2, -1, i -> (long) s.planned(i));
        StarHide full = sixteen();
        full.plan(16, 0, 150);
        due("the last of sixteen", full.planned(15), 15);
        dueOutside("planned of sixteen", 16, -1, i -> (long) full.planned(i));
    }

    private static void ofAll() {
        StarHide s = sixteen();
        due("sites", s.all(0), 16);
        for (int i = 0; i < 16; i++) {
            s.chord(i, 1, 2, 3, 4);
        }
        due("sixteen chords", s.all(1), 16);
        due("no misses", s.all(2), 0);
        for (int i = 0; i < 16; i++) {
            s.miss(i, 1, 2);
        }
        due("no chords", s.all(1), 0);
        due("sixteen misses", s.all(2), 16);
        due("no clouds", s.all(3), 0);
        for (int i = 0; i < 16; i++) {
            s.cloud(i);
        }
        due("no misses", s.all(2), 0);
        due("sixteen clouds", s.all(3), 16);
        for (int i = 0; i < 16; i++) {
            s.unsay(i);
            s.dip(i, 1, 2);
        }
        due("no clouds", s.all(3), 0);
        due("ten dips", s.all(4), 10);
        due("sites still", s.all(0), 16);
    }

    private static void allForOthers() {
        StarHide s = new StarHide();
        dueOutside("all of nothing for", 5, -1, what -> (long) s.all(what));
        StarHide full = sixteen();
        dueOutside("all for", 5, -1, what -> (long) full.all(what));
    }
}

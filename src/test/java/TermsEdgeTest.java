/**
 * The document's Terms, sentence by sentence: each part that names an edge has a test of its own,
 * under the document's words. No object is used for more than the 512 calls that are promised.
 */
public final class TermsEdgeTest {

    private static final int LOW = Integer.MIN_VALUE;
    private static final int HIGH = Integer.MAX_VALUE;
    private static final int NOWHERE = -1000000;

    private static int wrong = 0;
    private static int sentences = 0;
    private static int checks = 0;
    private static String sentence = "";

    public static void main(String[] args) {
        termsOfSites();
        termsOfReports();
        termsOfTheNet();
        termsOfEllipses();
        termsOfBadAndClocks();
        termsOfInside();
        termsOfDips();
        termsOfPlans();
        termsOfTheObject();
        System.out.println(wrong == 0 ? sentences + " sentences hold" : wrong + " answers are not as due");
        if (wrong != 0) {
            System.exit(1);
        }
    }

    private static void test(String words, Runnable test) {
        sentence = words;
        sentences++;
        int before = checks;
        test.run();
        if (checks == before) {
            fault("nothing was checked");
        }
    }

    private static void fault(String text) {
        wrong++;
        System.out.println("\"" + sentence + "\": " + text);
    }

    private static void due(String call, long got, long want) {
        checks++;
        if (got != want) {
            fault(call + " answered " + got + ", due is " + want);
        }
    }

    private static void taken(String call, boolean got) {
        checks++;
        if (!got) {
            fault(call + " was refused");
        }
    }

    private static void refused(String call, boolean got) {
        checks++;
        if (got) {
            fault(call + " was taken");
        }
    }

    // ---- I, sites

    private static void termsOfSites() {
        test("SITES, numbered from 0 on", TermsEdgeTest::numbersOfSites);
        test("(16 at most)", TermsEdgeTest::sixteenSites);
        test("Y across (-2000 .. 2000)", TermsEdgeTest::heightsOfSites);
        test("X along (-5000 .. 5000)", TermsEdgeTest::placesOfSites);
        test("of unlike Y", TermsEdgeTest::unlikeHeights);
        test("SPEED is V (1 .. 10; 5 at first)", TermsEdgeTest::speeds);
        test("along for each tick", TermsEdgeTest::alongForEachTick);
        test("A clock is so many ticks AHEAD (-50 .. 50; 0 at first)", TermsEdgeTest::clocksAhead);
        test("A tick t (-1000 .. 1000)", TermsEdgeTest::ticks);
        test("told at a SITE is the PLACE V (t less AHEAD) less X, at height Y", TermsEdgeTest::placeOfTick);
        test("the PLACES of two ticks are all from that of the first up to that of the second one",
            TermsEdgeTest::placesOfTwoTicks);
        test("between ticks too", TermsEdgeTest::betweenTicks);
    }

    private static void numbersOfSites() {
        StarHide s = new StarHide();
        due("the first site", s.site(30, 0), 0);
        due("the second, though it is lower", s.site(-30, 0), 1);
        due("a refused one", s.site(30, 0), -1);
        due("the third, as a refused one takes no number", s.site(0, 0), 2);
        due("place at 0", s.place(0, 1), 5);
        due("place at 2", s.place(2, 1), 5);
        due("place at 3", s.place(3, 1), NOWHERE);
        due("place at -1", s.place(-1, 1), NOWHERE);
    }

    private static void sixteenSites() {
        StarHide s = new StarHide();
        for (int i = 0; i < 15; i++) {
            s.site(i, i);
        }
        due("the 16th", s.site(15, 15), 15);
        due("the 17th", s.site(16, 16), -1);
        due("the 17th again, elsewhere", s.site(-2000, 5000), -1);
        due("sites", s.all(0), 16);
        due("place at the 16th", s.place(15, 0), -15);
        due("place at the 17th", s.place(16, 0), NOWHERE);
    }

    private static void heightsOfSites() {
        due("-2000", new StarHide().site(-2000, 0), 0);
        due("-2001", new StarHide().site(-2001, 0), -1);
        due("2000", new StarHide().site(2000, 0), 0);
        due("2001", new StarHide().site(2001, 0), -1);
        due("the least int", new StarHide().site(LOW, 0), -1);
        due("the greatest int", new StarHide().site(HIGH, 0), -1);
    }

    private static void placesOfSites() {
        due("-5000", new StarHide().site(0, -5000), 0);
        due("-5001", new StarHide().site(0, -5001), -1);
        due("5000", new StarHide().site(0, 5000), 0);
        due("5001", new StarHide().site(0, 5001), -1);
        due("the least int", new StarHide().site(0, LOW), -1);
        due("the greatest int", new StarHide().site(0, HIGH), -1);
    }

    private static void unlikeHeights() {
        StarHide s = new StarHide();
        s.site(100, 7);
        due("the same height elsewhere", s.site(100, 8), -1);
        due("the same height and place", s.site(100, 7), -1);
        due("one higher", s.site(101, 7), 1);
        due("one lower", s.site(99, 7), 2);
        due("the other sign", s.site(-100, 7), 3);
        due("the last one's height", s.site(-100, 0), -1);
        due("refused for its place", s.site(0, 5001), -1);
        due("so its height is free", s.site(0, 0), 4);
    }

    private static void speeds() {
        StarHide s = new StarHide();
        s.site(0, 0);
        due("a tick at first", s.place(0, 1), 5);
        due("0", s.speed(0), -1);
        due("-1", s.speed(-1), -1);
        due("11", s.speed(11), -1);
        due("the least int", s.speed(LOW), -1);
        due("the greatest int", s.speed(HIGH), -1);
        due("a tick after those", s.place(0, 1), 5);
        due("1", s.speed(1), 5);
        due("a tick", s.place(0, 1), 1);
        due("10", s.speed(10), 1);
        due("a tick", s.place(0, 1), 10);
    }

    private static void alongForEachTick() {
        for (int v = 1; v <= 10; v++) {
            StarHide s = new StarHide();
            s.speed(v);
            s.site(0, 13);
            due("from tick 999 to 1000", s.place(0, 1000) - s.place(0, 999), v);
            due("from tick -1000 to 1000", s.place(0, 1000) - s.place(0, -1000), 2000L * v);
        }
    }

    private static void clocksAhead() {
        StarHide s = new StarHide();
        s.site(0, 0);
        s.site(1, 0);
        due("place at first", s.place(0, 0), 0);
        due("-51", s.ahead(0, -51), -1000);
        due("51", s.ahead(0, 51), -1000);
        due("the least int", s.ahead(0, LOW), -1000);
        due("the greatest int", s.ahead(0, HIGH), -1000);
        due("still 0", s.ahead(0, -50), 0);
        due("place by -50", s.place(0, 0), 250);
        due("-50, then 50", s.ahead(0, 50), -50);
        due("place by 50", s.place(0, 0), -250);
        due("the other site's clock", s.place(1, 0), 0);
        due("it is 0 still", s.ahead(1, 0), 0);
    }

    /** A tick is told in four kinds of calls: each has the same bounds, at each of its arguments. */
    private static void ticks() {
        StarHide s = new StarHide();
        s.site(0, 0);
        s.site(1, 0);
        due("place at -1000", s.place(0, -1000), -5000);
        due("place at 1000", s.place(0, 1000), 5000);
        due("place at -1001", s.place(0, -1001), NOWHERE);
        due("place at 1001", s.place(0, 1001), NOWHERE);
        due("place at the least int", s.place(0, LOW), NOWHERE);
        due("place at the greatest int", s.place(0, HIGH), NOWHERE);
        taken("chord at -1000", s.chord(0, -1000, -1000, -1000, -1000));
        taken("chord at 1000", s.chord(0, 1000, 1000, 1000, 1000));
        refused("chord's a", s.chord(0, -1001, 0, 0, 0));
        refused("chord's a, b", s.chord(0, -1001, -1001, 0, 0));
        refused("chord's a, b, c", s.chord(0, -1001, -1001, -1001, 0));
        refused("chord all below", s.chord(0, -1001, -1001, -1001, -1001));
        refused("chord's d", s.chord(0, 0, 0, 0, 1001));
        refused("chord's c, d", s.chord(0, 0, 0, 1001, 1001));
        refused("chord's b, c, d", s.chord(0, 0, 1001, 1001, 1001));
        refused("chord all above", s.chord(0, 1001, 1001, 1001, 1001));
        refused("chord's a the least int", s.chord(0, LOW, 0, 0, 0));
        refused("chord's d the greatest int", s.chord(0, 0, 0, 0, HIGH));
        taken("miss from -1000 to 1000", s.miss(0, -1000, 1000));
        refused("miss's a", s.miss(0, -1001, 1000));
        refused("miss's b", s.miss(0, -1000, 1001));
        refused("miss all below", s.miss(0, -1001, -1001));
        refused("miss all above", s.miss(0, 1001, 1001));
        refused("miss of the least int", s.miss(0, LOW, 0));
        refused("miss of the greatest int", s.miss(0, 0, HIGH));
        due("dip from -1000 to 1000", s.dip(0, -1000, 1000), 1);
        due("dip's a", s.dip(0, -1001, 1000), -1);
        due("dip's b", s.dip(0, -1000, 1001), -1);
        due("dip all below", s.dip(0, -1002, -1001), -1);
        due("dip all above", s.dip(0, 1001, 1002), -1);
        due("dip of the least int", s.dip(0, LOW, 0), -1);
        due("dip of the greatest int", s.dip(0, 0, HIGH), -1);
    }

    private static void placeOfTick() {
        StarHide s = new StarHide();
        s.speed(10);
        s.site(2000, -5000);
        s.site(-2000, 5000);
        s.ahead(0, -50);
        s.ahead(1, 50);
        due("the greatest place", s.place(0, 1000), 15500);
        due("the least place", s.place(1, -1000), -15500);
        due("0 at a late clock", s.place(0, 0), 5500);
        due("0 at an early clock", s.place(1, 0), -5500);
        s.chord(0, 1000, 1000, 1000, 1000);
        due("its place", s.corner(0, 0), 15500);
        due("its height", s.corner(0, 1), 2000);
        s.unsay(0);
        s.chord(1, -1000, -1000, -1000, -1000);
        due("the other's place", s.corner(0, 0), -15500);
        due("the other's height", s.corner(0, 1), -2000);
        placeOfTickForFigures(7, 0, 3);
        placeOfTickForFigures(-7, 0, 3);
        placeOfTickForFigures(7, 2, -3);
        placeOfTickForFigures(-7, -2, 5);
    }

    /** A figure from x - 10 to x + 10 and a site so far along, with a clock so far ahead, at speed 1. */
    private static void placeOfTickForFigures(int along, int ticks, int x) {
        StarHide s = new StarHide();
        s.speed(1);
        s.site(0, along);
        s.ahead(0, ticks);
        s.net(0, x, 1, 1);
        s.net(2, 10, 1, 1);
        int middle = x + along + ticks;
        s.chord(0, middle - 10, middle - 10, middle + 10, middle + 10);
        due("a chord of just the figure", s.agrees(0, 0), 1);
        due("its clocks", s.clock(0, 0), 1);
        due("its clock", s.clock(0, 1), ticks);
        s.chord(0, middle - 9, middle - 9, middle + 11, middle + 11);
        due("one late", s.agrees(0, 0), 0);
        due("its clock", s.clock(0, 1), ticks + 1);
        s.chord(0, middle - 11, middle - 11, middle + 9, middle + 9);
        due("one early", s.agrees(0, 0), 0);
        due("its clock", s.clock(0, 1), ticks - 1);
        s.miss(0, middle + 10, middle + 20);
        due("a miss from its end on", s.agrees(0, 0), 1);
        s.miss(0, middle + 9, middle + 20);
        due("a miss from one before on", s.agrees(0, 0), 0);
        s.miss(0, middle - 20, middle - 10);
        due("a miss up to its end", s.agrees(0, 0), 1);
        s.miss(0, middle - 20, middle - 9);
        due("a miss up to one after", s.agrees(0, 0), 0);
        s.even(0);
        s.dip(0, middle - 20, middle + 20);
        due("a dip about its middle", s.ring(0, 0), 1);
        due("20 off", s.ring(0, 1), 400);
        s.speed(2);
        due("all that is told moves with the speed", s.place(0, middle), 2 * (x + along) - along);
    }

    /** An ellipse with a whole half width of w at its middle's height; a site there, speed 1. */
    private static StarHide level(int x, int w) {
        StarHide s = new StarHide();
        s.speed(1);
        s.net(0, x, 1, 1);
        s.net(2, w, 1, 1);
        s.site(0, 0);
        return s;
    }

    private static void placesOfTwoTicks() {
        StarHide s = level(0, 10);
        s.miss(0, -30, -9);
        due("the second tick's place is one of them", s.agrees(0, 0), 0);
        s.miss(0, 9, 30);
        due("the first tick's place is one of them", s.agrees(0, 0), 0);
        s.miss(0, -30, 30);
        due("all between are", s.agrees(0, 0), 0);
        s.miss(0, -30, -10);
        due("none is after the second", s.agrees(0, 0), 1);
        s.miss(0, 10, 30);
        due("none is before the first", s.agrees(0, 0), 1);
        s.miss(0, 0, 0);
        due("of a tick and itself there is one", s.agrees(0, 0), 0);
    }

    private static void betweenTicks() {
        StarHide s = level(5, 1);
        s.speed(10);
        s.miss(0, 0, 1);
        due("a miss at 0 and 10 of what is from 4 to 6", s.agrees(0, 0), 0);
        s.chord(0, 0, 1, 1, 2);
        due("it comes back before 10", s.agrees(0, 0), 0);
        s.chord(0, 0, 0, 0, 1);
        due("it goes out after 0", s.agrees(0, 0), 0);
        s.chord(0, 0, 1, 1, 1);
        due("it does not come back at 10", s.agrees(0, 0), 0);
        s.net(0, 10, 1, 1);
        s.net(2, 3, 1, 1);
        s.chord(0, 0, 1, 1, 2);
        due("from 7 to 13, between 0 and 10, 10 and 20", s.agrees(0, 0), 1);
    }

    // ---- I, reports

    private static void termsOfReports() {
        test("A SITE has one REPORT at most (a new one takes the old one's place)", TermsEdgeTest::oneReport);
        test("the star went out between ticks a and b (a up to b)", TermsEdgeTest::outFromAToB);
        test("came back between c and d (c up to d, b up to c)", TermsEdgeTest::backFromCToD);
        test("a MISS: watched from tick a up to tick b, it did not go out", TermsEdgeTest::missFromAToB);
        test("CLOUD: nothing is known", TermsEdgeTest::nothingIsKnown);
    }

    private static void tell(StarHide s, int kind) {
        if (kind == 1) {
            taken("chord", s.chord(0, -10, -10, 10, 10));
        } else if (kind == 2) {
            taken("miss", s.miss(0, 0, 0));
        } else {
            taken("cloud", s.cloud(0));
        }
    }

    private static void oneReport() {
        for (int old = 1; old <= 3; old++) {
            for (int next = 1; next <= 3; next++) {
                StarHide s = level(0, 10);
                tell(s, old);
                due("agrees with the old one", s.agrees(0, 0), old == 2 ? 0 : 1);
                tell(s, next);
                for (int kind = 1; kind <= 3; kind++) {
                    due("reports of kind " + kind, s.all(kind), kind == next ? 1 : 0);
                }
                due("agrees with the new one", s.agrees(0, 0), next == 2 ? 0 : 1);
                due("corners by the new one", s.inside(0), next == 1 ? 2 : 0);
                due("quarrels by the new one", s.quarrels(0), next == 2 ? 0 : -1);
                taken("the new one goes", s.unsay(0));
                refused("the old one is not there any more", s.unsay(0));
            }
        }
        StarHide s = level(0, 10);
        s.chord(0, -10, -10, 10, 10);
        s.chord(0, -11, -11, 11, 11);
        due("a chord in a chord's place", s.agrees(0, 0), 0);
        s.miss(0, 0, 0);
        s.miss(0, 10, 11);
        due("a miss in a miss's place", s.agrees(0, 0), 1);
    }

    private static void outFromAToB() {
        StarHide s = level(0, 10);
        taken("a as b", s.chord(0, -10, -10, 10, 11));
        taken("a one below b", s.chord(0, -11, -10, 10, 11));
        refused("a one above b", s.chord(0, -9, -10, 10, 11));
        refused("a far above all", s.chord(0, 1000, -1000, -1000, -1000));
    }

    private static void backFromCToD() {
        StarHide s = level(0, 10);
        taken("c as d", s.chord(0, -10, -9, 10, 10));
        taken("c one below d", s.chord(0, -10, -9, 9, 10));
        refused("c one above d", s.chord(0, -10, -9, 11, 10));
        taken("b as c", s.chord(0, -10, 0, 0, 10));
        taken("b one below c", s.chord(0, -10, 0, 1, 10));
        refused("b one above c", s.chord(0, -10, 1, 0, 10));
        taken("all alike", s.chord(0, 0, 0, 0, 0));
        refused("b above c and d", s.chord(0, -10, 1000, 0, 0));
        refused("d below all", s.chord(0, 0, 0, 0, -1000));
    }

    private static void missFromAToB() {
        StarHide s = level(0, 10);
        taken("a as b", s.miss(0, 3, 3));
        taken("a one below b", s.miss(0, 2, 3));
        refused("a one above b", s.miss(0, 3, 2));
        refused("the widest the wrong way", s.miss(0, 1000, -1000));
    }

    private static void nothingIsKnown() {
        StarHide s = level(0, 10);
        s.chord(0, 500, 500, 600, 600);
        due("the chord is false", s.fitting(), 0);
        s.cloud(0);
        due("all fit", s.fitting(), 1);
        due("nothing is inside", s.inside(0), 0);
        due("nothing is bad", s.bad(0), 0);
        due("every clock will do", s.clock(0, 0), 101);
        due("no miss", s.quarrels(0), -1);
    }

    // ---- II, the net

    private static void termsOfTheNet() {
        test("each of these four from FROM on by BY, N of them", TermsEdgeTest::fromOnBy);
        test("N 1 .. 8", TermsEdgeTest::manyInARow);
        test("BY 1 .. 1000", TermsEdgeTest::steps);
        test("FROM -15000 .. 15000 for x", TermsEdgeTest::fromOfX);
        test("-2000 .. 2000 for y", TermsEdgeTest::fromOfY);
        test("1 .. 2000 for w, h", TermsEdgeTest::fromOfWidths);
        test("and these never above 2000", TermsEdgeTest::neverAbove);
        test("At first each is one: 0, 0, 100, 100", TermsEdgeTest::atFirst);
        test("FIGURES are numbered by x, then y, w, h: ((x's k times N of y and y's k) times N of w and w's k) times"
            + " N of h and h's k", TermsEdgeTest::numbersOfFigures);
    }

    private static void fromOnBy() {
        for (int row = 0; row < 4; row++) {
            StarHide s = new StarHide();
            taken("row " + row, s.net(row, 50, 7, 8));
            for (int k = 0; k < 8; k++) {
                due("row " + row + " at " + k, s.figure(k, row), 50 + 7 * k);
            }
            due("past the last", s.figure(8, row), NOWHERE);
        }
    }

    private static void manyInARow() {
        for (int row = 0; row < 4; row++) {
            StarHide s = new StarHide();
            taken("8", s.net(row, 10, 1, 8));
            due("figures", s.figures(), 8);
            refused("9", s.net(row, 10, 1, 9));
            refused("0", s.net(row, 10, 1, 0));
            refused("-1", s.net(row, 10, 1, -1));
            refused("the least int", s.net(row, 10, 1, LOW));
            refused("the greatest int", s.net(row, 10, 1, HIGH));
            refused("so many that they come round", s.net(row, 10, 1000, 1 << 29));
            due("figures after those", s.figures(), 8);
            taken("1", s.net(row, 10, 1, 1));
            due("one", s.figures(), 1);
        }
    }

    private static void steps() {
        for (int row = 0; row < 4; row++) {
            StarHide s = new StarHide();
            taken("1", s.net(row, 10, 1, 2));
            due("by 1", s.figure(1, row), 11);
            taken("1000", s.net(row, 10, 1000, 2));
            due("by 1000", s.figure(1, row), 1010);
            refused("0", s.net(row, 10, 0, 2));
            refused("1001", s.net(row, 10, 1001, 2));
            refused("-1", s.net(row, 10, -1, 2));
            refused("the least int", s.net(row, 10, LOW, 2));
            refused("the greatest int", s.net(row, 10, HIGH, 2));
            refused("so much that it comes round", s.net(row, 10, 1 << 30, 5));
            refused("0 for one alone", s.net(row, 10, 0, 1));
            refused("1001 for one alone", s.net(row, 10, 1001, 1));
            due("by 1000 after those", s.figure(1, row), 1010);
        }
    }

    private static void fromOfX() {
        StarHide s = new StarHide();
        taken("-15000", s.net(0, -15000, 1000, 8));
        due("the first", s.figure(0, 0), -15000);
        taken("15000", s.net(0, 15000, 1000, 8));
        due("the last may go beyond", s.figure(7, 0), 22000);
        refused("-15001", s.net(0, -15001, 1, 1));
        refused("15001", s.net(0, 15001, 1, 1));
        refused("the least int", s.net(0, LOW, 1, 1));
        refused("the greatest int", s.net(0, HIGH, 1, 1));
        due("as it was", s.figure(0, 0), 15000);
    }

    private static void fromOfY() {
        StarHide s = new StarHide();
        taken("-2000", s.net(1, -2000, 1000, 8));
        due("the first", s.figure(0, 1), -2000);
        taken("2000", s.net(1, 2000, 1000, 8));
        due("the last may go beyond", s.figure(7, 1), 9000);
        refused("-2001", s.net(1, -2001, 1, 1));
        refused("2001", s.net(1, 2001, 1, 1));
        refused("x's bound", s.net(1, 15000, 1, 1));
        refused("the least int", s.net(1, LOW, 1, 1));
        refused("the greatest int", s.net(1, HIGH, 1, 1));
        due("as it was", s.figure(0, 1), 2000);
    }

    private static void fromOfWidths() {
        for (int row = 2; row <= 3; row++) {
            StarHide s = new StarHide();
            taken("1", s.net(row, 1, 1, 1));
            due("the least", s.figure(0, row), 1);
            taken("2000", s.net(row, 2000, 1, 1));
            due("the greatest", s.figure(0, row), 2000);
            refused("0", s.net(row, 0, 1, 2));
            refused("-1", s.net(row, -1, 1, 3));
            refused("2001", s.net(row, 2001, 1, 1));
            refused("the least int", s.net(row, LOW, 1, 1));
            refused("the greatest int", s.net(row, HIGH, 1, 1));
            refused("the greatest int, coming round", s.net(row, HIGH, 1000, 8));
            due("as it was", s.figure(0, row), 2000);
        }
    }

    private static void neverAbove() {
        for (int row = 2; row <= 3; row++) {
            StarHide s = new StarHide();
            taken("8 up to 2000", s.net(row, 1993, 1, 8));
            due("the last", s.figure(7, row), 2000);
            refused("8 up to 2001", s.net(row, 1994, 1, 8));
            taken("7 up to 2000", s.net(row, 1994, 1, 7));
            taken("2 by 1000", s.net(row, 1000, 1000, 2));
            due("the last", s.figure(1, row), 2000);
            refused("2 by 1000 from 1001", s.net(row, 1001, 1000, 2));
            refused("3 by 1000 from 1", s.net(row, 1, 1000, 3));
            taken("8 by 285 from 5", s.net(row, 5, 285, 8));
            refused("8 by 285 from 6", s.net(row, 6, 285, 8));
            refused("8 by 286 from 5", s.net(row, 5, 286, 8));
            taken("one, whatever the step", s.net(row, 2000, 1000, 1));
            refused("two of 2000", s.net(row, 2000, 1, 2));
        }
    }

    private static void atFirst() {
        StarHide s = new StarHide();
        int[] first = {0, 0, 100, 100};
        due("figures", s.figures(), 1);
        for (int row = 0; row < 4; row++) {
            due("row " + row, s.figure(0, row), first[row]);
            due("no second one in row " + row, s.figure(1, row), NOWHERE);
        }
        taken("a row alone", s.net(2, 7, 1, 1));
        due("h is not w", s.figure(0, 3), 100);
        due("w", s.figure(0, 2), 7);
    }

    private static void numbersOfFigures() {
        int[] many = {2, 3, 5, 7};
        int f = 0;
        for (int i = 0; i < 2; i++) {
            for (int j = 0; j < 3; j++) {
                StarHide s = new StarHide();
                for (int row = 0; row < 4; row++) {
                    s.net(row, 100 * row + 1, row + 1, many[row]);
                }
                for (int k = 0; k < 5; k++) {
                    for (int l = 0; l < 7; l++) {
                        due("x of " + f, s.figure(f, 0), 1 + i);
                        due("y of " + f, s.figure(f, 1), 101 + 2 * j);
                        due("w of " + f, s.figure(f, 2), 201 + 3 * k);
                        due("h of " + f, s.figure(f, 3), 301 + 4 * l);
                        f++;
                    }
                }
            }
        }
        lastFigure();
        rowsOfOneAmongOthers();
        eachByItsOwnNumbers();
    }

    /** Each row is once of one and once of three: a row of one has no say in the numbers of the others. */
    private static void rowsOfOneAmongOthers() {
        for (int rows = 0; rows < 16; rows++) {
            StarHide s = new StarHide();
            s.speed(1);
            s.site(0, 0);
            int[] many = new int[4];
            for (int row = 0; row < 4; row++) {
                many[row] = (rows >> row & 1) == 0 ? 1 : 3;
                s.net(row, row < 2 ? 0 : 100, 10, many[row]);
            }
            s.chord(0, -100, -100, 100, 100);
            int f = 0;
            for (int i = 0; i < many[0]; i++) {
                for (int j = 0; j < many[1]; j++) {
                    for (int k = 0; k < many[2]; k++) {
                        for (int l = 0; l < many[3]; l++) {
                            due("x of " + f, s.figure(f, 0), 10 * i);
                            due("y of " + f, s.figure(f, 1), 10 * j);
                            due("w of " + f, s.figure(f, 2), 100 + 10 * k);
                            due("h of " + f, s.figure(f, 3), 100 + 10 * l);
                            // Only middles at 0, 0 and a half width of 100 have those ends, whatever h is.
                            due("agrees " + f, s.agrees(f, 0), i == 0 && j == 0 && k == 0 ? 1 : 0);
                            f++;
                        }
                    }
                }
            }
            due("figures", s.figures(), f);
            due("those that fit", s.fitting(), many[3]);
        }
    }

    /** Of 16 figures just one is as told: it is the one whose numbers are those. */
    private static void eachByItsOwnNumbers() {
        for (int f = 0; f < 16; f++) {
            StarHide s = new StarHide();
            s.speed(1);
            s.net(0, -5, 7, 2);
            s.net(1, -30, 50, 2);
            s.net(2, 100, 40, 2);
            s.net(3, 100, 70, 2);
            int y = s.figure(f, 1);
            int first = s.figure(f, 0) - s.figure(f, 2);
            int last = s.figure(f, 0) + s.figure(f, 2);
            s.site(y, 0);
            s.chord(0, first, first, last, last);
            // At its own height each h is as wide; just below its top only one of both h goes.
            due("those of one x, y and w", s.fitting(), 2);
            due("the first of them", s.fits(0), f / 2 * 2);
            s.site(y + 101, 0);
            if (f % 2 == 0) {
                s.miss(1, -1000, 1000);
            } else {
                s.chord(1, -1000, 0, 0, 1000);
            }
            due("the one", s.fitting(), 1);
            due("its number", s.fits(0), f);
            for (int g = 0; g < 16; g++) {
                due("figure " + g + " and what was told of " + f, s.agrees(g, 0), g / 2 == f / 2 ? 1 : 0);
            }
            due("its clock", s.clock(0, 1), f < 8 ? -7 : 0);
            due("its clock", s.clock(0, 2), f < 8 ? 0 : 7);
        }
    }

    private static void lastFigure() {
        StarHide s = new StarHide();
        for (int row = 0; row < 4; row++) {
            s.net(row, 1 + row, 10 + row, 8);
        }
        due("the most figures", s.figures(), 4096);
        for (int row = 0; row < 4; row++) {
            due("row " + row + " of the last", s.figure(4095, row), 1 + row + 7 * (10 + row));
            due("row " + row + " past the last", s.figure(4096, row), NOWHERE);
        }
        due("x of the first with the next x", s.figure(512, 0), 11);
        due("x of the one before", s.figure(511, 0), 1);
        due("y of the first with the next y", s.figure(64, 1), 13);
        due("y of the one before", s.figure(63, 1), 2);
        due("w of the first with the next w", s.figure(8, 2), 15);
        due("w of the one before", s.figure(7, 2), 3);
    }

    // ---- II, ellipses

    private static void termsOfEllipses() {
        test("An ellipse goes at height Y, d = Y less y being without its sign below h", TermsEdgeTest::goesBelowH);
        test("from x - e to x + e, e being w times the root of (1 less d d / (h h))", TermsEdgeTest::halfWidth);
        test("at others nowhere", TermsEdgeTest::atOthersNowhere);
        test("It AGREES with a CHORD, if it goes there", TermsEdgeTest::chordWhereItGoes);
        test("and its ends are in the PLACES of a to b, of c to d (ends too)", TermsEdgeTest::endsToo);
        test("with a MISS, if it goes nowhere there", TermsEdgeTest::missWhereItGoesNot);
        test("or has no PLACE of a to b in it (a place at its end is not in it)", TermsEdgeTest::missAtItsEnd);
        test("with CLOUD always", TermsEdgeTest::cloudAlways);
        test("It FITS, if it AGREES with all REPORTS", TermsEdgeTest::fitsAll);
        test("All exactly", TermsEdgeTest::allExactly);
    }

    /** An ellipse at x 0 and a site at a height, speed 1. */
    private static StarHide over(int y, int w, int h, int siteY) {
        StarHide s = new StarHide();
        s.speed(1);
        s.net(1, y, 1, 1);
        s.net(2, w, 1, 1);
        s.net(3, h, 1, 1);
        s.site(siteY, 0);
        return s;
    }

    private static int agreesWithAnyChord(int y, int w, int h, int siteY) {
        StarHide s = over(y, w, h, siteY);
        s.chord(0, -1000, 0, 0, 1000);
        return s.agrees(0, 0);
    }

    private static int agreesWithLongMiss(int y, int w, int h, int siteY) {
        StarHide s = over(y, w, h, siteY);
        s.miss(0, -1000, 1000);
        return s.agrees(0, 0);
    }

    private static void goesBelowH() {
        due("one below its top", agreesWithAnyChord(10, 50, 40, 49), 1);
        due("one above its bottom", agreesWithAnyChord(10, 50, 40, -29), 1);
        due("its top", agreesWithAnyChord(10, 50, 40, 50), 0);
        due("its bottom", agreesWithAnyChord(10, 50, 40, -30), 0);
        due("the smallest at its middle", agreesWithAnyChord(0, 1, 1, 0), 1);
        due("the smallest one higher", agreesWithAnyChord(0, 1, 1, 1), 0);
        due("the smallest one lower", agreesWithAnyChord(0, 1, 1, -1), 0);
        due("the highest, one below its top", agreesWithAnyChord(1, 1, 2000, 2000), 1);
        due("the highest, at its top", agreesWithAnyChord(0, 1, 2000, 2000), 0);
        due("the highest, at its bottom", agreesWithAnyChord(0, 1, 2000, -2000), 0);
    }

    /** Whether it goes from just -e up to e at a site. */
    private static int agreesWithJust(int w, int h, int d, int e) {
        StarHide s = over(0, w, h, d);
        s.chord(0, -e, -e, e, e);
        return s.agrees(0, 0);
    }

    private static void halfWidth() {
        due("at the middle w", agreesWithJust(500, 123, 0, 500), 1);
        due("3 4 5", agreesWithJust(500, 500, 300, 400), 1);
        due("3 4 5 below", agreesWithJust(500, 500, -300, 400), 1);
        due("5 12 13, w unlike h", agreesWithJust(26, 13, 5, 24), 1);
        due("a whole e of a w and h with none of their own", agreesWithJust(1000, 2000, 1200, 800), 1);
        due("one too narrow", agreesWithJust(500, 500, 300, 399), 0);
        due("one too wide", agreesWithJust(500, 500, 300, 401), 0);
        StarHide s = level(700, 500);
        s.chord(0, 200, 200, 200, 1000);
        due("from x - e: back too late", s.agrees(0, 0), 0);
        s.net(0, 500, 1, 1);
        s.chord(0, 0, 0, 1000, 1000);
        due("from x - e to x + e", s.agrees(0, 0), 1);
        s.net(0, -500, 1, 1);
        s.chord(0, -1000, -1000, 0, 0);
        due("the same at the other side", s.agrees(0, 0), 1);
        for (int w : new int[] {1, 2, 3, 4, 7, 8, 9, 127, 128, 129, 511, 512, 513, 1023, 1024, 1025, 1535, 1536, 1999,
            2000}) {
            halfWidthAtTheMiddle(w);
        }
        // 2000 wide and 2000 high: at 1200 off it is 1600 half wide, which ticks reach at speed 2.
        StarHide wide = over(0, 2000, 2000, 1200);
        wide.speed(2);
        wide.chord(0, -800, -800, 800, 800);
        due("the widest", wide.agrees(0, 0), 1);
    }

    private static void halfWidthAtTheMiddle(int w) {
        StarHide s = new StarHide();
        s.speed(2);
        int odd = w % 2;
        s.site(0, odd);
        s.net(2, w, 1, 1);
        int first = (odd - w) / 2;
        int last = (odd + w) / 2;
        s.chord(0, first, first, last, last);
        due("just " + w, s.agrees(0, 0), 1);
        s.chord(0, first, first, last - 1, last - 1);
        due("less than " + w, s.agrees(0, 0), 0);
        s.chord(0, first - 1, first - 1, last, last);
        due("more than " + w, s.agrees(0, 0), 0);
    }

    private static void atOthersNowhere() {
        due("one above its top", agreesWithAnyChord(10, 50, 40, 51), 0);
        due("one below its bottom", agreesWithAnyChord(10, 50, 40, -31), 0);
        due("far above", agreesWithAnyChord(-2000, 50, 40, 2000), 0);
        due("far below", agreesWithAnyChord(2000, 50, 40, -2000), 0);
        due("far below, where a miss is right", agreesWithLongMiss(2000, 50, 40, -2000), 1);
        StarHide s = over(2000, 2000, 2000, -2000);
        s.net(1, 2000, 1000, 8);
        s.miss(0, -1000, 1000);
        due("the farthest, 11000 off", s.agrees(7, 0), 1);
        s.chord(0, -1000, 0, 0, 1000);
        due("the farthest and a chord", s.agrees(7, 0), 0);
    }

    private static void chordWhereItGoes() {
        StarHide s = over(0, 100, 100, 100);
        s.chord(0, 0, 0, 0, 0);
        due("at its top it goes not even at its middle", s.agrees(0, 0), 0);
        due("and no figure fits", s.fitting(), 0);
        due("one lower", agreesWithAnyChord(0, 100, 100, 99), 1);
    }

    private static int agreesWithChord(int a, int b, int c, int d) {
        StarHide s = level(0, 10);
        taken("chord", s.chord(0, a, b, c, d));
        return s.agrees(0, 0);
    }

    private static void endsToo() {
        due("out at a", agreesWithChord(-10, -5, 5, 15), 1);
        due("out one before a", agreesWithChord(-9, -5, 5, 15), 0);
        due("out at b", agreesWithChord(-15, -10, 5, 15), 1);
        due("out one after b", agreesWithChord(-15, -11, 5, 15), 0);
        due("back at c", agreesWithChord(-15, -5, 10, 15), 1);
        due("back one before c", agreesWithChord(-15, -5, 11, 15), 0);
        due("back at d", agreesWithChord(-15, -5, 5, 10), 1);
        due("back one after d", agreesWithChord(-15, -5, 5, 9), 0);
        due("out at a and b, back at c and d", agreesWithChord(-10, -10, 10, 10), 1);
        due("out and back at one tick", agreesWithChord(0, 0, 0, 0), 0);
        due("out right, back wrong", agreesWithChord(-10, -10, 20, 20), 0);
        due("back right, out wrong", agreesWithChord(-20, -20, 10, 10), 0);
    }

    private static void missWhereItGoesNot() {
        due("its top", agreesWithLongMiss(10, 50, 40, 50), 1);
        due("its bottom", agreesWithLongMiss(10, 50, 40, -30), 1);
        due("one below its top", agreesWithLongMiss(10, 50, 40, 49), 0);
        due("one above its bottom", agreesWithLongMiss(10, 50, 40, -29), 0);
    }

    private static int agreesWithMiss(int a, int b) {
        StarHide s = level(0, 10);
        taken("miss", s.miss(0, a, b));
        return s.agrees(0, 0);
    }

    private static void missAtItsEnd() {
        due("up to its left end", agreesWithMiss(-20, -10), 1);
        due("up to one more", agreesWithMiss(-20, -9), 0);
        due("from its right end on", agreesWithMiss(10, 20), 1);
        due("from one before on", agreesWithMiss(9, 20), 0);
        due("just the left end", agreesWithMiss(-10, -10), 1);
        due("just the right end", agreesWithMiss(10, 10), 1);
        due("from end to end", agreesWithMiss(-10, 10), 0);
        due("from before to after", agreesWithMiss(-11, 11), 0);
        due("in the midst", agreesWithMiss(0, 0), 0);
        due("far before", agreesWithMiss(-1000, -900), 1);
        due("far after", agreesWithMiss(900, 1000), 1);
    }

    private static void cloudAlways() {
        StarHide s = over(0, 100, 100, 100);
        s.cloud(0);
        s.site(0, 0);
        s.cloud(1);
        due("where it goes nowhere", s.agrees(0, 0), 1);
        due("where it goes", s.agrees(0, 1), 1);
        due("it fits", s.fitting(), 1);
    }

    /** A figure of 1000 by 1000 and 16 sites that it goes over, all with a miss far off. */
    private static StarHide sixteenMisses() {
        StarHide s = new StarHide();
        s.speed(2);
        s.net(2, 1000, 1, 1);
        s.net(3, 1000, 1, 1);
        for (int i = 0; i < 16; i++) {
            s.site(50 * i - 400, 0);
            s.miss(i, 500, 1000);
        }
        return s;
    }

    private static void fitsAll() {
        due("without a site", new StarHide().fitting(), 1);
        StarHide quiet = new StarHide();
        quiet.site(0, 0);
        due("without a report", quiet.fitting(), 1);
        due("all sixteen right", sixteenMisses().fitting(), 1);
        for (int i = 0; i < 16; i++) {
            StarHide s = sixteenMisses();
            s.miss(i, 0, 0);
            due("one wrong, at " + i, s.fitting(), 0);
            due("bad, at " + i, s.bad(0), 1);
            s.unsay(i);
            due("without that one", s.fitting(), 1);
        }
    }

    private static void allExactly() {
        // 1393 squared times (1970 squared less 1393 squared) is 985 squared times 1970 squared less 1.
        justBelow(1393, 1970, 1393, 985);
        // 1591 squared times (1528 squared less 1491 squared) is 348 squared times 1528 squared and 7.
        justAbove(1591, 1528, 1491, 348);
        justBelow(923, 924, 43, 922);
        justBelow(1, 2000, 1, 1);
        justAbove(1, 2, 1, 0);
    }

    /** Where e is a little less than m. */
    private static void justBelow(int w, int h, int d, int m) {
        StarHide s = over(0, w, h, d);
        s.chord(0, -m, -m + 1, m - 1, m);
        due("ends less than " + m + " off", s.agrees(0, 0), 1);
        s.chord(0, -m, -m, m - 1, m);
        due("out before " + -m, s.agrees(0, 0), 0);
        s.chord(0, -m, -m + 1, m, m);
        due("back after " + m, s.agrees(0, 0), 0);
        s.miss(0, m, m);
        due("a miss at " + m, s.agrees(0, 0), 1);
        s.miss(0, -m, -m);
        due("a miss at " + -m, s.agrees(0, 0), 1);
        s.miss(0, m - 1, m);
        due("a miss from " + (m - 1), s.agrees(0, 0), 0);
        s.miss(0, -m, -m + 1);
        due("a miss up to " + (-m + 1), s.agrees(0, 0), 0);
    }

    /** Where e is a little more than m. */
    private static void justAbove(int w, int h, int d, int m) {
        StarHide s = over(0, w, h, d);
        s.chord(0, -m - 1, -m, m, m + 1);
        due("ends more than " + m + " off", s.agrees(0, 0), 1);
        s.chord(0, -m, -m, m, m + 1);
        due("out after " + -m, s.agrees(0, 0), 0);
        s.chord(0, -m - 1, -m, m, m);
        due("back before " + m, s.agrees(0, 0), 0);
        s.miss(0, m, m + 1);
        due("a miss from " + m, s.agrees(0, 0), 0);
        s.miss(0, -m - 1, -m);
        due("a miss up to " + -m, s.agrees(0, 0), 0);
        s.miss(0, m + 1, m + 1);
        due("a miss from " + (m + 1), s.agrees(0, 0), 1);
        s.miss(0, -m - 1, -m - 1);
        due("a miss up to " + (-m - 1), s.agrees(0, 0), 1);
    }

    // ---- III, bad reports and clocks

    private static void termsOfBadAndClocks() {
        test("BAD: the fewest REPORTS without which some FIGURE FITS the others", TermsEdgeTest::fewest);
        test("(the least such FIGURE; BAD are those with which it does not AGREE)", TermsEdgeTest::leastSuchFigure);
        test("THE CLOCKS of a SITE: ticks s from -50 to 50", TermsEdgeTest::clocksFromTo);
        test("so that some FIGURE FITS, if that SITE's clock is s AHEAD", TermsEdgeTest::clocksThatMend);
    }

    private static void fewest() {
        due("without a report", new StarHide().bad(0), 0);
        StarHide s = sixteenMisses();
        due("none", s.bad(0), 0);
        for (int i = 0; i < 16; i++) {
            s.miss(i, 0, 0);
            due((i + 1) + " of 16", s.bad(0), i + 1);
        }
        due("by the one figure", s.bad(1), 0);
        for (int i = 0; i < 16; i++) {
            due("all are bad, " + i, s.isBad(i), 1);
        }
    }

    /**
     * Figures 10, 20, 30 half wide, or a little less at the heights 1 and 2: the site at 0 tells of the
     * first one, the other two of the second one.
     */
    private static StarHide threeWidths() {
        StarHide s = new StarHide();
        s.speed(1);
        s.net(2, 10, 10, 3);
        s.net(3, 2000, 1, 1);
        for (int i = 0; i < 3; i++) {
            s.site(i, 0);
        }
        s.chord(0, -11, -10, 10, 11);
        s.chord(1, -20, -19, 19, 20);
        s.chord(2, -20, -19, 19, 20);
        return s;
    }

    private static void leastSuchFigure() {
        StarHide s = threeWidths();
        due("one bad", s.bad(0), 1);
        due("by the second", s.bad(1), 1);
        due("the first's is", s.isBad(0), 1);
        due("the second's is not", s.isBad(1), 0);
        due("the third's is not", s.isBad(2), 0);
        s.unsay(2);
        due("one bad of two", s.bad(0), 1);
        due("by the least of two figures", s.bad(1), 0);
        due("the first's is not", s.isBad(0), 0);
        due("the second's is", s.isBad(1), 1);
        s.chord(2, -30, -29, 29, 30);
        due("two of three", s.bad(0), 2);
        due("by the least of three figures", s.bad(1), 0);
        due("the third's is bad too", s.isBad(2), 1);
        s.unsay(0);
        s.unsay(1);
        due("none", s.bad(0), 0);
        due("by the last figure", s.bad(1), 2);
    }

    private static void dueClocks(StarHide s, int site, int many, int least, int greatest) {
        due("clocks", s.clock(site, 0), many);
        due("the least", s.clock(site, 1), least);
        due("the greatest", s.clock(site, 2), greatest);
    }

    /** The clocks of a chord that was told so late that just one clock makes it true. */
    private static void dueLate(int late, int many) {
        StarHide s = level(0, 10);
        s.chord(0, -10 + late, -10 + late, 10 + late, 10 + late);
        dueClocks(s, 0, many, many == 0 ? -1000 : late, many == 0 ? -1000 : late);
    }

    private static void clocksFromTo() {
        dueLate(50, 1);
        dueLate(51, 0);
        dueLate(-50, 1);
        dueLate(-51, 0);
        dueLate(0, 1);
        StarHide s = level(0, 10);
        dueClocks(s, 0, 101, -50, 50);
        // By the clock -50 the places are those at the figure's ends, by those beyond it they are in it.
        s.miss(0, -60, -60);
        dueClocks(s, 0, 101, -50, 50);
        s.miss(0, 60, 60);
        dueClocks(s, 0, 101, -50, 50);
        s.miss(0, -59, -59);
        dueClocks(s, 0, 100, -49, 50);
        s.miss(0, 59, 59);
        dueClocks(s, 0, 100, -50, 49);
        s.miss(0, -60, 39);
        dueClocks(s, 0, 2, 49, 50);
        s.miss(0, -60, 40);
        dueClocks(s, 0, 1, 50, 50);
        s.miss(0, -60, 41);
        dueClocks(s, 0, 0, -1000, -1000);
        s.miss(0, -40, 60);
        dueClocks(s, 0, 1, -50, -50);
        s.miss(0, -41, 60);
        dueClocks(s, 0, 0, -1000, -1000);
        s.miss(0, -39, 60);
        dueClocks(s, 0, 2, -50, -49);
    }

    private static void clocksThatMend() {
        StarHide s = level(0, 10);
        s.chord(0, 28, 32, 48, 52);
        dueClocks(s, 0, 5, 38, 42);
        s.ahead(0, 40);
        due("it fits now", s.fitting(), 1);
        dueClocks(s, 0, 5, 38, 42);
        s.ahead(0, -50);
        dueClocks(s, 0, 5, 38, 42);
        due("the clock is as it was", s.ahead(0, 40), -50);
        s.site(1, 0);
        dueClocks(s, 1, 101, -50, 50);
        s.chord(1, 500, 500, 600, 600);
        dueClocks(s, 0, 0, -1000, -1000);
        dueClocks(s, 1, 0, -1000, -1000);
        s.miss(1, 0, 0);
        // At height 1 the half width is a little less than 10: a clock of 10 or -10 is enough.
        dueClocks(s, 1, 82, -50, 50);
        due("bad, of which the clock is to blame", s.isBad(1), 1);
        s.speed(10);
        s.net(2, 300, 1, 1);
        s.chord(0, 10, 10, 70, 70);
        s.chord(1, -30, -29, 29, 30);
        // By 10 for each tick only one clock will do.
        dueClocks(s, 0, 1, 40, 40);
        dueClocks(s, 1, 1, 0, 0);
        someFigure();
    }

    private static void someFigure() {
        StarHide s = level(0, 10);
        s.net(0, -20, 20, 3);
        s.chord(0, -10, -10, 10, 10);
        // The middles -20, 0, 20 want the clocks 20, 0, -20.
        dueClocks(s, 0, 3, -20, 20);
        s.net(0, -50, 50, 3);
        dueClocks(s, 0, 3, -50, 50);
        s.net(0, -51, 51, 3);
        dueClocks(s, 0, 1, 0, 0);
    }

    // ---- III, inside

    private static void termsOfInside() {
        test("INSIDE: of all CHORDS the PLACES of b and of c, at their heights", TermsEdgeTest::ofBAndC);
        test("the smallest figure without dents that has them all", TermsEdgeTest::withoutDents);
        test("Its corners (no three in one line)", TermsEdgeTest::noThreeInOneLine);
        test("counted from the one of the least height (of several the least place)", TermsEdgeTest::firstCorner);
        test("on so that the next one is reached with all others at the left", TermsEdgeTest::othersAtTheLeft);
        test("its area twice", TermsEdgeTest::areaTwice);
    }

    private static void dueCorners(StarHide s, int... places) {
        due("corners", s.inside(0), places.length / 2);
        for (int k = 0; k < places.length / 2; k++) {
            due("place of corner " + k, s.corner(k, 0), places[2 * k]);
            due("height of corner " + k, s.corner(k, 1), places[2 * k + 1]);
        }
        due("no corner more", s.corner(places.length / 2, 0), NOWHERE);
    }

    private static StarHide sitesAt(int... heights) {
        StarHide s = new StarHide();
        s.speed(1);
        for (int y : heights) {
            s.site(y, 0);
        }
        return s;
    }

    private static void put(StarHide s, int site, int b, int c) {
        taken("chord", s.chord(site, b, b, c, c));
    }

    private static void ofBAndC() {
        StarHide s = sitesAt(7, 9, 11);
        s.chord(0, -50, -10, 10, 50);
        dueCorners(s, -10, 7, 10, 7);
        s.chord(0, -50, 3, 3, 50);
        dueCorners(s, 3, 7);
        s.miss(1, -100, 100);
        s.cloud(2);
        dueCorners(s, 3, 7);
        s.chord(1, -9, -1, 4, 9);
        dueCorners(s, 3, 7, 4, 9, -1, 9);
        s.ahead(1, 1);
        dueCorners(s, 3, 7, 3, 9, -2, 9);
        s.unsay(0);
        dueCorners(s, -2, 9, 3, 9);
        s.speed(10);
        dueCorners(s, -20, 9, 30, 9);
        s.unsay(1);
        dueCorners(s);
    }

    private static void withoutDents() {
        StarHide s = sitesAt(0, 100, 200);
        put(s, 0, -100, 100);
        put(s, 2, -100, 100);
        put(s, 1, -10, 10);
        dueCorners(s, -100, 0, 100, 0, 100, 200, -100, 200);
        put(s, 1, -101, 10);
        dueCorners(s, -100, 0, 100, 0, 100, 200, -100, 200, -101, 100);
        put(s, 1, -10, 101);
        dueCorners(s, -100, 0, 100, 0, 101, 100, 100, 200, -100, 200);
        put(s, 1, -99, 99);
        dueCorners(s, -100, 0, 100, 0, 100, 200, -100, 200);
    }

    private static void noThreeInOneLine() {
        StarHide s = sitesAt(0, 100, 200);
        put(s, 0, -100, 100);
        put(s, 1, -100, 100);
        put(s, 2, -100, 100);
        dueCorners(s, -100, 0, 100, 0, 100, 200, -100, 200);
        put(s, 1, -75, 75);
        put(s, 2, -50, 50);
        dueCorners(s, -100, 0, 100, 0, 50, 200, -50, 200);
        put(s, 1, -76, 76);
        dueCorners(s, -100, 0, 100, 0, 76, 100, 50, 200, -50, 200, -76, 100);
        put(s, 0, 1, 1);
        put(s, 1, 2, 2);
        put(s, 2, 3, 3);
        dueCorners(s, 1, 0, 3, 200);
        put(s, 1, 1, 1);
        dueCorners(s, 1, 0, 3, 200, 1, 100);
        // Lines that are all but level, to each side, with the farthest place told first, amidst and last.
        for (int side = -1; side <= 1; side += 2) {
            for (int far = 0; far < 3; far++) {
                StarHide flat = sitesAt(0, 1, 2, 3);
                put(flat, 0, 0, 0);
                for (int i = 0; i < 3; i++) {
                    int k = 1 + (i + far) % 3;
                    put(flat, k, side * 300 * k, side * 300 * k);
                }
                dueCorners(flat, 0, 0, side * 900, 3);
            }
        }
        StarHide line = sitesAt(20, 10, 40, 30, 50);
        for (int i = 0; i < 5; i++) {
            put(line, i, 0, 0);
        }
        dueCorners(line, 0, 10, 0, 50);
    }

    private static void firstCorner() {
        StarHide s = sitesAt(200, -100);
        put(s, 0, -500, 500);
        put(s, 1, 3, 4);
        dueCorners(s, 3, -100, 4, -100, 500, 200, -500, 200);
        put(s, 1, 4, 4);
        dueCorners(s, 4, -100, 500, 200, -500, 200);
        s.unsay(1);
        dueCorners(s, -500, 200, 500, 200);
        StarHide ends = sitesAt(2000, -2000);
        put(ends, 0, 1, 1);
        put(ends, 1, 2, 2);
        dueCorners(ends, 2, -2000, 1, 2000);
    }

    private static void othersAtTheLeft() {
        StarHide s = sitesAt(0, 10, 20);
        put(s, 0, 0, 0);
        put(s, 1, 5, 5);
        put(s, 2, 0, 0);
        dueCorners(s, 0, 0, 5, 10, 0, 20);
        put(s, 1, -5, -5);
        dueCorners(s, 0, 0, 0, 20, -5, 10);
        sixteenChords();
    }

    /** The most corners: 16 chords, each with two of its own. */
    private static void sixteenChords() {
        StarHide s = new StarHide();
        s.speed(1);
        for (int i = 0; i < 16; i++) {
            s.site(i, 0);
        }
        for (int i = 0; i < 16; i++) {
            int half = 500 - (2 * i - 15) * (2 * i - 15);
            put(s, i, -half, half);
        }
        due("corners", s.inside(0), 32);
        for (int i = 0; i < 16; i++) {
            int half = 500 - (2 * i - 15) * (2 * i - 15);
            due("corner up the right side", s.corner(1 + i, 0), half);
            due("its height", s.corner(1 + i, 1), i);
            due("corner down the left side", s.corner(i == 0 ? 0 : 32 - i, 0), -half);
            due("its height", s.corner(i == 0 ? 0 : 32 - i, 1), i);
        }
        due("no 33rd", s.corner(32, 0), NOWHERE);
    }

    private static void areaTwice() {
        StarHide s = sitesAt(0, 1, 2);
        put(s, 0, 0, 1);
        put(s, 1, 0, 0);
        due("half of one", s.inside(1), 1);
        put(s, 1, -1000, -1000);
        due("the same, slanting", s.inside(1), 1);
        put(s, 1, 0, 1);
        due("one", s.inside(1), 2);
        put(s, 0, 0, 0);
        put(s, 1, 1, 1);
        put(s, 2, 2, 2);
        due("in one line", s.inside(1), 0);
        StarHide wide = new StarHide();
        wide.speed(10);
        wide.site(-2000, 5000);
        wide.site(2000, -5000);
        wide.ahead(0, 50);
        wide.ahead(1, -50);
        wide.chord(0, -1000, -1000, 1000, 1000);
        wide.chord(1, -1000, -1000, 1000, 1000);
        due("the greatest", wide.inside(1), 160000000);
    }

    // ---- III, dips

    private static void termsOfDips() {
        test("DIPS: pairs of ticks (a below b)", TermsEdgeTest::dipFromAToB);
        test("at SITES, up to 10 in all, with PLACES p, q", TermsEdgeTest::tenDips);
        test("By a FIGURE a DIP is EVEN, if p and q and -2 x are MISS (0 .. 1000; 10 at first) at most in sum",
            TermsEdgeTest::even);
        test("MISS (0 .. 1000; 10 at first)", TermsEdgeTest::missOfDips);
        test("without the sign", TermsEdgeTest::withoutTheSign);
        test("THE RING of a FIGURE: all DIPS are EVEN", TermsEdgeTest::allAreEven);
        test("squares of distances from its middle: of each DIP's p and q, the least and the greatest",
            TermsEdgeTest::squares);
    }

    private static void dipFromAToB() {
        StarHide s = sitesAt(0);
        due("a one below b", s.dip(0, 4, 5), 1);
        due("a as b", s.dip(0, 5, 5), -1);
        due("a one above b", s.dip(0, 6, 5), -1);
        due("the widest", s.dip(0, -1000, 1000), 2);
        due("the widest the wrong way", s.dip(0, 1000, -1000), -1);
        due("dips", s.all(4), 2);
    }

    private static void tenDips() {
        StarHide s = sitesAt(0, 1, 2);
        for (int i = 0; i < 9; i++) {
            due("dip", s.dip(i % 3, -5, 5), i + 1);
        }
        due("the 10th, like another one", s.dip(2, -5, 5), 10);
        for (int site = 0; site < 3; site++) {
            due("the 11th", s.dip(site, -5, 5), -1);
        }
        due("dips", s.all(4), 10);
        due("all ten are looked at", s.ring(0, 0), 10);
        s.calm();
        due("after calm there is room", s.dip(0, -5, 5), 1);
        s.ahead(0, 3);
        due("places by the clock: -8 and 2", s.ring(0, 2), 64);
        s.speed(2);
        due("places by the speed: -16 and 4, not even", s.ring(0, 0), 0);
    }

    private static long isEven(int slack, int x, int a, int b) {
        StarHide s = sitesAt(0);
        s.net(0, x, 1, 1);
        s.even(slack);
        s.dip(0, a, b);
        return s.ring(0, 0);
    }

    private static void even() {
        due("7 off by 7", isEven(7, 0, -10, 17), 1);
        due("8 off by 7", isEven(7, 0, -10, 18), 0);
        due("x counts twice: 7 off", isEven(7, 100, 90, 117), 1);
        due("x counts twice: 8 off", isEven(7, 100, 90, 118), 0);
        due("the middle of the two", isEven(0, 100, 90, 110), 1);
        due("0 off by 0", isEven(0, -100, -110, -90), 1);
        due("1 off by 0", isEven(0, 0, -10, 11), 0);
        due("both on one side, far off", isEven(10, 0, 100, 110), 0);
    }

    private static void missOfDips() {
        StarHide s = sitesAt(0);
        s.dip(0, -10, 20);
        due("10 off at first", s.ring(0, 0), 1);
        s.calm();
        s.dip(0, -10, 21);
        due("11 off at first", s.ring(0, 0), 0);
        due("-1", s.even(-1), -1);
        due("1001", s.even(1001), -1);
        due("the least int", s.even(LOW), -1);
        due("the greatest int", s.even(HIGH), -1);
        due("still 11 off", s.ring(0, 0), 0);
        due("0, and it was 10", s.even(0), 10);
        due("1000, and it was 0", s.even(1000), 0);
        due("1000 off", isEven(1000, 0, 0, 1000), 1);
        due("1001 off", isEven(1000, 0, 1, 1000), 0);
    }

    private static void withoutTheSign() {
        due("-7 by 7", isEven(7, 0, -17, 10), 1);
        due("-8 by 7", isEven(7, 0, -18, 10), 0);
        due("-1000 by 1000", isEven(1000, 0, -1000, 0), 1);
        due("-1001 by 1000", isEven(1000, 0, -1000, -1), 0);
        due("-1 by 0", isEven(0, 0, -11, 10), 0);
        due("far below", isEven(10, 0, -1000, -999), 0);
    }

    private static void allAreEven() {
        StarHide s = sitesAt(0, 5);
        s.dip(0, -20, 20);
        s.dip(1, -15, 25);
        due("both", s.ring(0, 0), 2);
        due("a ring", s.ring(0, 1), 250);
        s.dip(0, -15, 26);
        due("two of three", s.ring(0, 0), 2);
        due("no ring", s.ring(0, 1), -1);
        due("no ring, greatest", s.ring(0, 2), -1);
        s.even(11);
        due("all of three", s.ring(0, 0), 3);
        due("a ring again", s.ring(0, 1), 225);
        s.even(9);
        due("one of three", s.ring(0, 0), 1);
        due("no ring by one", s.ring(0, 1), -1);
    }

    private static void squares() {
        StarHide s = sitesAt(0, 12);
        s.net(0, 5, 1, 1);
        s.net(1, -4, 1, 1);
        s.dip(0, 2, 8);
        due("least: 3 along, 4 across", s.ring(0, 1), 25);
        due("greatest: the same", s.ring(0, 2), 25);
        s.dip(1, 5 - 30, 5 + 32);
        due("least stays", s.ring(0, 1), 25);
        due("greatest: 32 along, 16 across", s.ring(0, 2), 1280);
        s.dip(0, 5 - 1, 5 + 33);
        due("not even", s.ring(0, 2), -1);
        s.even(100);
        due("least: p alone is near", s.ring(0, 1), 17);
        due("greatest: 32 along, 16 across", s.ring(0, 2), 1280);
        s.dip(0, 5 - 40, 5);
        due("least: q is at the middle's place", s.ring(0, 1), 16);
        due("greatest: p is far", s.ring(0, 2), 1616);
        StarHide far = new StarHide();
        far.speed(10);
        far.site(-2000, -5000);
        far.even(1000);
        far.net(0, 5500, 1, 1);
        far.net(1, 2000, 1000, 8);
        far.dip(0, -1000, 1000);
        due("the farthest: 10500 along, 11000 across", far.ring(7, 2), 231250000);
        due("its other end: 9500 along", far.ring(7, 1), 211250000);
    }

    // ---- III, plans

    private static void termsOfPlans() {
        test("n SITES of that band", TermsEdgeTest::sitesOfTheBand);
        test("the greatest of the gaps between the band's lower end, these, in order of height, and its upper end",
            TermsEdgeTest::gaps);
        test("is least", TermsEdgeTest::leastGap);
        test("of several those with the lower one where two first differ, from below on", TermsEdgeTest::lowerOne);
    }

    private static void duePlan(StarHide s, int n, int from, int to, int gap, int... sites) {
        due("plan(" + n + ", " + from + ", " + to + ")", s.plan(n, from, to), gap);
        for (int i = 0; i < sites.length; i++) {
            due("planned " + i, s.planned(i), sites[i]);
        }
        due("no one more is planned", s.planned(sites.length), -1);
    }

    private static void sitesOfTheBand() {
        StarHide s = sitesAt(90, 10);
        duePlan(s, 2, 10, 90, 80, 1, 0);
        due("the lower end is above a site", s.plan(2, 11, 90), -1);
        due("the upper end is below a site", s.plan(2, 10, 89), -1);
        duePlan(s, 1, 11, 90, 79, 0);
        duePlan(s, 1, 10, 89, 79, 1);
        due("none in it", s.plan(1, 11, 89), -1);
        StarHide full = new StarHide();
        for (int i = 0; i < 16; i++) {
            full.site(100 - i, 0);
        }
        duePlan(full, 16, 0, 200, 100, 15, 14, 13, 12, 11, 10, 9, 8, 7, 6, 5, 4, 3, 2, 1, 0);
        due("17", full.plan(17, 0, 200), -1);
        due("16 in a band of 15", full.plan(16, 86, 200), -1);
        due("15 in a band of 15", full.plan(15, 86, 200), 100);
    }

    private static void gaps() {
        duePlan(sitesAt(70), 1, 0, 100, 70, 0);
        duePlan(sitesAt(30), 1, 0, 100, 70, 0);
        duePlan(sitesAt(90, 10), 2, 0, 100, 80, 1, 0);
        duePlan(sitesAt(60, 20, 40), 3, 0, 100, 40, 1, 2, 0);
        duePlan(sitesAt(50), 1, 0, 100, 50, 0);
        duePlan(sitesAt(50, 0, 100), 3, 0, 100, 50, 1, 0, 2);
        duePlan(sitesAt(-2000, 2000), 2, -2000, 2000, 4000, 0, 1);
        duePlan(sitesAt(-2000), 1, -2000, 2000, 4000, 0);
        duePlan(sitesAt(2000), 1, -2000, 2000, 4000, 0);
        duePlan(sitesAt(5), 1, 5, 6, 1, 0);
        duePlan(sitesAt(6), 1, 5, 6, 1, 0);
    }

    private static void leastGap() {
        // From 0 to 100: the lowest of three is of no use to two.
        duePlan(sitesAt(1, 34, 67), 2, 0, 100, 34, 1, 2);
        duePlan(sitesAt(33, 66, 99), 2, 0, 100, 34, 0, 1);
        duePlan(sitesAt(10, 45, 49, 52, 60), 1, 0, 100, 51, 2);
        duePlan(sitesAt(30, 35, 65, 70), 2, 0, 100, 35, 0, 2);
        duePlan(sitesAt(30, 34, 66, 70), 2, 0, 100, 34, 1, 2);
    }

    private static void lowerOne() {
        // Of 20 60, 40 60 and 40 80 each leaves 40.
        duePlan(sitesAt(20, 40, 60, 80), 2, 0, 100, 40, 0, 2);
        duePlan(sitesAt(80, 60, 40, 20), 2, 0, 100, 40, 3, 1);
        duePlan(sitesAt(20, 40, 60, 80), 3, 0, 100, 40, 0, 1, 2);
        duePlan(sitesAt(49, 51, 50), 1, 0, 100, 50, 2);
        duePlan(sitesAt(51, 49), 1, 0, 100, 51, 1);
        // The gap of 60 below leaves the others free: the lowest ones, though others would be more even.
        duePlan(sitesAt(60, 61, 62, 80), 2, 0, 100, 60, 0, 1);
        // Where the first is the same, the second tells: 40 60 or 40 65.
        duePlan(sitesAt(65, 40, 60), 2, 0, 100, 40, 1, 2);
        // 3 must be one of them: the other one is the lowest.
        duePlan(sitesAt(0, 1, 2, 3), 2, 0, 2000, 1997, 0, 3);
    }

    // ---- the object

    private static void termsOfTheObject() {
        test("`NONE = -1`: None; refused", TermsEdgeTest::none);
        test("An object is used for at most 512 calls after it has been made", TermsEdgeTest::theLastCall);
    }

    private static void none() {
        due("NONE", StarHide.NONE, -1);
        StarHide s = new StarHide();
        due("refused", s.speed(0), StarHide.NONE);
        due("none", s.planned(0), StarHide.NONE);
    }

    /** The 512th call is answered as the first one, whatever the others were. */
    private static void theLastCall() {
        StarHide s = level(0, 10);
        int calls = 4;
        while (calls < 511) {
            int at = calls % 20 - 10;
            s.chord(0, at - 10, at - 10, at + 10, at + 10);
            calls++;
        }
        // The 511th call was with 510 % 20 - 10, and so is 0.
        due("the 512th", s.clock(0, 1), 0);
    }
}

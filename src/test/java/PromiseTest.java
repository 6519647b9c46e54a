/** Each promise of the document by hand: ordinary inputs, the edges it names, and wrong inputs. */
public final class PromiseTest {

    private static final int LOW = Integer.MIN_VALUE;
    private static final int HIGH = Integer.MAX_VALUE;

    private static int wrong = 0;
    private static int promise = 0;

    private static void due(String call, long got, long want) {
        if (got != want) {
            wrong++;
            System.out.println("promise " + promise + ": " + call + " answered " + got + ", due is " + want);
        }
    }

    private static void due(String call, boolean got, boolean want) {
        due(call, got ? 1 : 0, want ? 1 : 0);
    }

    public static void main(String[] args) {
        newObject();
        speed();
        site();
        ahead();
        chord();
        miss();
        cloud();
        unsay();
        place();
        net();
        figures();
        figure();
        agreesWithChord();
        agreesWithMiss();
        agreesEdges();
        fittingAndFits();
        size();
        bad();
        isBad();
        clock();
        clockEdges();
        inside();
        corner();
        quarrels();
        dip();
        even();
        calm();
        ring();
        plan();
        planned();
        all();
        manyCalls();
        System.out.println(wrong == 0 ? "all promises hold" : wrong + " answers are not as due");
        if (wrong != 0) {
            System.exit(1);
        }
    }

    /** A figure 500 wide and 500 high at 0, 0: at height 300 its ends are at -400 and 400. */
    private static StarHide round() {
        StarHide s = new StarHide();
        s.net(2, 500, 1, 1);
        s.net(3, 500, 1, 1);
        s.speed(1);
        s.site(300, 0);
        return s;
    }

    private static void newObject() {
        promise = 1;
        StarHide s = new StarHide();
        for (int what = 0; what <= 4; what++) {
            due("all", s.all(what), 0);
        }
        due("figures", s.figures(), 1);
        due("figure x", s.figure(0, 0), 0);
        due("figure y", s.figure(0, 1), 0);
        due("figure w", s.figure(0, 2), 100);
        due("figure h", s.figure(0, 3), 100);
        due("fitting", s.fitting(), 1);
        due("fits", s.fits(0), 0);
        due("size", s.size(true), 10000);
        due("bad", s.bad(0), 0);
        due("bad by", s.bad(1), 0);
        due("inside", s.inside(0), 0);
        due("area", s.inside(1), 0);
        due("corner", s.corner(0, 0), -1000000);
        due("ring", s.ring(0, 0), 0);
        due("ring least", s.ring(0, 1), -1);
        due("planned", s.planned(0), -1);
        due("clock", s.clock(0, 0), -1000);
        due("NONE", StarHide.NONE, -1);
    }

    private static void speed() {
        promise = 2;
        StarHide s = new StarHide();
        due("speed(0)", s.speed(0), -1);
        due("speed(11)", s.speed(11), -1);
        due("speed(min)", s.speed(LOW), -1);
        due("speed(10)", s.speed(10), 5);
        due("speed(1)", s.speed(1), 10);
        due("speed(1)", s.speed(1), 1);
        s.site(0, 0);
        s.speed(7);
        due("place by the new speed", s.place(0, 3), 21);
        due("speed(7)", s.speed(7), 7);
    }

    private static void site() {
        promise = 3;
        StarHide s = new StarHide();
        due("y too low", s.site(-2001, 0), -1);
        due("y too high", s.site(2001, 0), -1);
        due("x too low", s.site(0, -5001), -1);
        due("x too high", s.site(0, 5001), -1);
        due("extremes", s.site(LOW, HIGH), -1);
        due("lowest", s.site(-2000, -5000), 0);
        due("highest", s.site(2000, 5000), 1);
        due("same height", s.site(2000, 7), -1);
        due("same x", s.site(0, 5000), 2);
        for (int i = 3; i < 16; i++) {
            due("more", s.site(i, 0), i);
        }
        due("17th", s.site(100, 0), -1);
        due("all", s.all(0), 16);
    }

    private static void ahead() {
        promise = 4;
        StarHide s = new StarHide();
        due("no site", s.ahead(0, 0), -1000);
        s.site(0, 0);
        due("too little", s.ahead(0, -51), -1000);
        due("too much", s.ahead(0, 51), -1000);
        due("no such site", s.ahead(1, 3), -1000);
        due("site below 0", s.ahead(-1, 3), -1000);
        due("extremes", s.ahead(HIGH, LOW), -1000);
        due("-50", s.ahead(0, -50), 0);
        due("50", s.ahead(0, 50), -50);
        due("7", s.ahead(0, 7), 50);
        due("place by a clock ahead", s.place(0, 10), 15);
        s.chord(0, 0, 10, 20, 30);
        due("corner moves with the clock", s.corner(0, 0), 15);
        s.ahead(0, 8);
        due("corner moves with the clock again", s.corner(0, 0), 10);
        due("refused keeps it", s.ahead(0, 99), -1000);
        due("what it was", s.ahead(0, 0), 8);
    }

    private static void chord() {
        promise = 5;
        StarHide s = new StarHide();
        due("no site", s.chord(0, 0, 1, 2, 3), false);
        s.site(0, 0);
        due("a above b", s.chord(0, 2, 1, 2, 3), false);
        due("b above c", s.chord(0, 0, 3, 2, 3), false);
        due("c above d", s.chord(0, 0, 1, 4, 3), false);
        due("a too low", s.chord(0, -1001, 1, 2, 3), false);
        due("d too high", s.chord(0, 0, 1, 2, 1001), false);
        due("extremes", s.chord(0, LOW, LOW, HIGH, HIGH), false);
        due("site below 0", s.chord(-1, 0, 1, 2, 3), false);
        due("none told", s.all(1), 0);
        due("all like", s.chord(0, 5, 5, 5, 5), true);
        due("widest", s.chord(0, -1000, -1000, 1000, 1000), true);
        due("one told", s.all(1), 1);
        s.miss(0, 1, 2);
        due("chord in a miss's place", s.chord(0, 0, 1, 2, 3), true);
        due("chords", s.all(1), 1);
        due("misses", s.all(2), 0);
    }

    private static void miss() {
        promise = 6;
        StarHide s = new StarHide();
        due("no site", s.miss(0, 0, 1), false);
        s.site(0, 0);
        due("a above b", s.miss(0, 2, 1), false);
        due("a too low", s.miss(0, -1001, 1), false);
        due("b too high", s.miss(0, 1, 1001), false);
        due("extremes", s.miss(HIGH, LOW, HIGH), false);
        due("one tick", s.miss(0, 3, 3), true);
        due("widest", s.miss(0, -1000, 1000), true);
        due("misses", s.all(2), 1);
        due("refused", s.miss(0, 5, 4), false);
        due("the old one stays", s.all(2), 1);
    }

    private static void cloud() {
        promise = 7;
        StarHide s = new StarHide();
        due("no site", s.cloud(0), false);
        s.site(0, 0);
        s.chord(0, 500, 500, 600, 600);
        due("chord does not fit", s.fitting(), 0);
        due("cloud", s.cloud(0), true);
        due("site 1", s.cloud(1), false);
        due("site below 0", s.cloud(LOW), false);
        due("clouds", s.all(3), 1);
        due("chords", s.all(1), 0);
        due("agrees", s.agrees(0, 0), 1);
        due("fits", s.fitting(), 1);
    }

    private static void unsay() {
        promise = 8;
        StarHide s = new StarHide();
        due("no site", s.unsay(0), false);
        s.site(0, 0);
        due("no report", s.unsay(0), false);
        s.chord(0, 500, 500, 600, 600);
        due("fitting", s.fitting(), 0);
        due("chord", s.unsay(0), true);
        due("fitting", s.fitting(), 1);
        due("inside", s.inside(0), 0);
        due("twice", s.unsay(0), false);
        s.miss(0, 0, 0);
        due("miss", s.unsay(0), true);
        s.cloud(0);
        due("cloud", s.unsay(0), true);
        due("site 1", s.unsay(1), false);
        due("site below 0", s.unsay(-1), false);
        due("left", s.all(1) + s.all(2) + s.all(3), 0);
    }

    private static void place() {
        promise = 9;
        StarHide s = new StarHide();
        due("no site", s.place(0, 0), -1000000);
        s.site(7, 30);
        due("at 0", s.place(0, 0), -30);
        due("at 10", s.place(0, 10), 20);
        s.ahead(0, -3);
        due("late clock", s.place(0, 10), 35);
        due("tick too low", s.place(0, -1001), -1000000);
        due("tick too high", s.place(0, 1001), -1000000);
        due("no such site", s.place(1, 0), -1000000);
        due("site below 0", s.place(-1, 0), -1000000);
        s.site(8, -5000);
        s.ahead(1, -50);
        s.speed(10);
        due("farthest", s.place(1, 1000), 15500);
        due("earliest tick", s.place(1, -1000), -4500);
    }

    private static void net() {
        promise = 10;
        StarHide s = new StarHide();
        due("row -1", s.net(-1, 0, 1, 1), false);
        due("row 4", s.net(4, 1, 1, 1), false);
        due("n 0", s.net(0, 0, 1, 0), false);
        due("n 9", s.net(0, 0, 1, 9), false);
        due("by 0", s.net(0, 0, 0, 1), false);
        due("by 1001", s.net(0, 0, 1001, 1), false);
        due("extremes", s.net(3, 1, HIGH, HIGH), false);
        due("x low", s.net(0, -15001, 1, 1), false);
        due("x high", s.net(0, 15001, 1, 1), false);
        due("y low", s.net(1, -2001, 1, 1), false);
        due("y high", s.net(1, 2001, 1, 1), false);
        due("still one", s.figures(), 1);
        due("x lowest", s.net(0, -15000, 1000, 8), true);
        due("x highest", s.net(0, 15000, 1000, 8), true);
        due("last x", s.figure(7, 0), 22000);
        due("y lowest", s.net(1, -2000, 1000, 8), true);
        due("y highest", s.net(1, 2000, 1000, 8), true);
        for (int row = 2; row <= 3; row++) {
            due("width 0", s.net(row, 0, 1, 1), false);
            due("width 2001", s.net(row, 2001, 1, 1), false);
            due("last at 2001", s.net(row, 1994, 1, 8), false);
            due("last at 2000", s.net(row, 1993, 1, 8), true);
            due("one of 2000, by 1000", s.net(row, 2000, 1000, 1), true);
            due("one of 2000, by 0", s.net(row, 2000, 0, 1), false);
            due("two of 2000", s.net(row, 2000, 1, 2), false);
            due("least", s.net(row, 1, 285, 8), true);
        }
        due("figures", s.figures(), 4096);
    }

    private static void figures() {
        promise = 11;
        StarHide s = new StarHide();
        s.net(0, 0, 1, 2);
        s.net(1, 0, 1, 3);
        due("2 x 3", s.figures(), 6);
        s.net(2, 10, 1, 5);
        s.net(3, 10, 1, 7);
        due("2 x 3 x 5 x 7", s.figures(), 210);
        s.net(0, 0, 1, 9);
        due("refused", s.figures(), 210);
        s.net(1, 0, 1, 1);
        due("fewer", s.figures(), 70);
        due("all fit", s.fitting(), 70);
    }

    private static StarHide fourRows() {
        StarHide s = new StarHide();
        s.net(0, -10, 3, 2);
        s.net(1, 20, 5, 3);
        s.net(2, 100, 7, 5);
        s.net(3, 200, 11, 7);
        return s;
    }

    private static void figure() {
        promise = 12;
        StarHide s = fourRows();
        int f = 0;
        for (int i = 0; i < 2; i++) {
            for (int j = 0; j < 3; j++) {
                for (int k = 0; k < 5; k++) {
                    for (int l = 0; l < 7; l++) {
                        due("x of " + f, s.figure(f, 0), -10 + 3 * i);
                        due("y of " + f, s.figure(f, 1), 20 + 5 * j);
                        due("w of " + f, s.figure(f, 2), 100 + 7 * k);
                        due("h of " + f, s.figure(f, 3), 200 + 11 * l);
                        f++;
                    }
                }
            }
            // One object is not asked more than it promises to answer.
            s = fourRows();
        }
        due("past the last", s.figure(210, 0), -1000000);
        due("before the first", s.figure(-1, 0), -1000000);
        due("what 4", s.figure(0, 4), -1000000);
        due("what -1", s.figure(0, -1), -1000000);
        due("extremes", s.figure(HIGH, LOW), -1000000);
    }

    private static void agreesWithChord() {
        promise = 13;
        StarHide s = round();
        s.chord(0, -400, -400, 400, 400);
        due("both ends exact", s.agrees(0, 0), 1);
        s.chord(0, -401, -400, 400, 401);
        due("ends at b and c", s.agrees(0, 0), 1);
        s.chord(0, -400, -399, 399, 400);
        due("ends at a and d", s.agrees(0, 0), 1);
        s.chord(0, -399, -399, 399, 500);
        due("out before a", s.agrees(0, 0), 0);
        s.chord(0, -500, -401, 399, 500);
        due("out after b", s.agrees(0, 0), 0);
        s.chord(0, -500, -300, 401, 500);
        due("back before c", s.agrees(0, 0), 0);
        s.chord(0, -500, -300, 300, 399);
        due("back after d", s.agrees(0, 0), 0);
        s.site(301, 0);
        s.chord(1, -400, -400, 300, 500);
        due("a little narrower than 400", s.agrees(0, 1), 0);
        s.chord(1, -400, -399, 399, 400);
        due("between 399 and 400", s.agrees(0, 1), 1);
        s.chord(1, -399, -399, 399, 400);
        due("a little wider than 399", s.agrees(0, 1), 0);
        s.site(500, 0);
        s.chord(2, -1000, 0, 0, 1000);
        due("d as h: it goes nowhere", s.agrees(0, 2), 0);
        s.site(-499, 0);
        s.chord(3, -1000, 0, 0, 1000);
        due("d below h", s.agrees(0, 3), 1);
    }

    private static void agreesWithMiss() {
        promise = 13;
        StarHide s = round();
        s.miss(0, 400, 1000);
        due("from its end on", s.agrees(0, 0), 1);
        s.miss(0, 399, 1000);
        due("from inside on", s.agrees(0, 0), 0);
        s.miss(0, -1000, -400);
        due("up to its end", s.agrees(0, 0), 1);
        s.miss(0, -1000, -399);
        due("up to inside", s.agrees(0, 0), 0);
        s.miss(0, 0, 0);
        due("inside", s.agrees(0, 0), 0);
        s.miss(0, -1000, 1000);
        due("all over it", s.agrees(0, 0), 0);
        s.site(500, 0);
        s.miss(1, -1000, 1000);
        due("at its top it goes nowhere", s.agrees(0, 1), 1);
        s.site(-499, 0);
        s.miss(2, 0, 0);
        due("just below its top", s.agrees(0, 2), 0);
        // Between two ticks there are places too.
        s.speed(10);
        s.net(2, 1, 1, 1);
        s.net(0, 5, 1, 1);
        s.miss(0, 0, 1);
        due("hidden between ticks", s.agrees(0, 0), 0);
    }

    private static void agreesEdges() {
        promise = 13;
        StarHide s = round();
        due("no report", s.agrees(0, 0), 1);
        s.cloud(0);
        due("cloud", s.agrees(0, 0), 1);
        due("no such figure", s.agrees(1, 0), -1);
        due("figure below 0", s.agrees(-1, 0), -1);
        due("no such site", s.agrees(0, 1), -1);
        due("site below 0", s.agrees(0, -1), -1);
        due("extremes", s.agrees(HIGH, LOW), -1);
        s.chord(0, -400, -400, 400, 400);
        s.ahead(0, 1);
        due("clock ahead", s.agrees(0, 0), 0);
        s.chord(0, -399, -399, 401, 401);
        due("told by that clock", s.agrees(0, 0), 1);
        s.net(0, -1, 1, 3);
        due("x -1", s.agrees(0, 0), 0);
        due("x 0", s.agrees(1, 0), 1);
        due("x 1", s.agrees(2, 0), 0);
        // The widest: 2000 wide and high, 1200 off, 1600 half wide.
        s.net(0, 15000, 1, 1);
        s.net(2, 2000, 1, 1);
        s.net(3, 2000, 1, 1);
        s.site(-1200, -5000);
        s.speed(10);
        s.chord(1, 840, 840, 1000, 1000);
        due("widest, too early", s.agrees(0, 1), 0);
        s.ahead(1, -50);
        s.chord(1, 790, 790, 1000, 1000);
        due("15000 - 1600 is 8400 + 5000", s.agrees(0, 1), 0);
        s.net(0, 13900, 1, 1);
        s.chord(1, 680, 680, 1000, 1000);
        due("13900 and 1600", s.agrees(0, 1), 1);
    }

    private static void fittingAndFits() {
        promise = 14;
        StarHide s = round();
        s.net(0, -10, 10, 3);
        s.net(2, 490, 10, 3);
        due("all", s.fitting(), 9);
        s.chord(0, -402, -390, 390, 402);
        // Half widths there: 392, 400, 408 at middles -10, 0, 10.
        due("one at the middle, two wide", s.fitting(), 2);
        promise = 15;
        due("first", s.fits(0), 3);
        due("second", s.fits(1), 4);
        due("past the last", s.fits(2), -1);
        due("below 0", s.fits(-1), -1);
        due("extreme", s.fits(HIGH), -1);
        promise = 14;
        s.site(0, 0);
        s.miss(1, 495, 600);
        due("and a miss", s.fitting(), 1);
        promise = 15;
        due("the narrow one", s.fits(0), 3);
        s.miss(1, 0, 1);
        promise = 14;
        due("none", s.fitting(), 0);
        promise = 15;
        due("none", s.fits(0), -1);
    }

    private static void size() {
        promise = 16;
        StarHide s = new StarHide();
        s.net(2, 10, 5, 3);
        s.net(3, 30, -1, 1);
        s.net(3, 30, 7, 2);
        due("least", s.size(false), 300);
        due("greatest", s.size(true), 740);
        s.speed(1);
        s.site(0, 0);
        s.chord(0, -16, -14, 14, 16);
        due("least of 15 wide", s.size(false), 450);
        due("greatest of 15 wide", s.size(true), 555);
        s.chord(0, -9, -9, 9, 9);
        due("none, least", s.size(false), -1);
        due("none, greatest", s.size(true), -1);
        s.cloud(0);
        s.net(2, 2000, 1, 1);
        s.net(3, 2000, 1, 1);
        due("largest", s.size(true), 4000000);
    }

    private static StarHide torn() {
        StarHide s = round();
        s.site(0, 0);
        s.site(-300, 0);
        s.net(2, 500, 100, 2);
        s.chord(0, -400, -400, 400, 400);
        s.chord(1, -600, -600, 600, 600);
        s.chord(2, -480, -480, 480, 480);
        return s;
    }

    private static void bad() {
        promise = 17;
        StarHide s = torn();
        due("fewest", s.bad(0), 1);
        due("by the wide one", s.bad(1), 1);
        s.unsay(2);
        due("a tie", s.bad(0), 1);
        due("the least figure of a tie", s.bad(1), 0);
        s.unsay(1);
        due("none bad", s.bad(0), 0);
        due("by the one that fits", s.bad(1), 0);
        s.chord(0, 900, 900, 1000, 1000);
        s.chord(1, 900, 900, 1000, 1000);
        due("all bad", s.bad(0), 2);
        due("what -1", s.bad(-1), -1);
        due("what 2", s.bad(2), -1);
    }

    private static void isBad() {
        promise = 18;
        StarHide s = torn();
        due("the narrow one's", s.isBad(0), 1);
        due("at the middle", s.isBad(1), 0);
        due("below", s.isBad(2), 0);
        s.site(10, 0);
        due("without a report", s.isBad(3), 0);
        s.cloud(3);
        due("cloud", s.isBad(3), 0);
        due("no such site", s.isBad(4), -1);
        due("site below 0", s.isBad(-1), -1);
        s.unsay(0);
        due("not told any more", s.isBad(0), 0);
    }

    private static void clock() {
        promise = 19;
        StarHide s = round();
        s.site(0, 0);
        s.chord(0, -402, -395, 395, 402);
        s.chord(1, -470, -470, 530, 530);
        due("bad as it is", s.fitting(), 0);
        due("one clock mends", s.clock(1, 0), 1);
        due("least", s.clock(1, 1), 30);
        due("greatest", s.clock(1, 2), 30);
        due("none mends", s.clock(0, 0), 0);
        due("none, least", s.clock(0, 1), -1000);
        due("none, greatest", s.clock(0, 2), -1000);
        s.ahead(1, 30);
        due("now others' clocks", s.clock(0, 0), 5);
        due("least", s.clock(0, 1), -2);
        due("greatest", s.clock(0, 2), 2);
        due("the clock itself stays", s.ahead(1, 30), 30);
        s.ahead(1, 0);
        due("it is asked anew", s.clock(0, 0), 0);
        due("what -1", s.clock(1, -1), -1000);
        due("what 3", s.clock(1, 3), -1000);
        due("no such site", s.clock(2, 0), -1000);
        due("no such site", s.clock(2, 1), -1000);
        due("site below 0", s.clock(-1, 0), -1000);
    }

    private static void clockEdges() {
        promise = 19;
        StarHide s = round();
        due("without a report", s.clock(0, 0), 101);
        due("least", s.clock(0, 1), -50);
        due("greatest", s.clock(0, 2), 50);
        s.cloud(0);
        due("cloud", s.clock(0, 0), 101);
        // A miss at 390 .. 410: its clock must put 410 to -400 or below, or 390 to 400 or above.
        s.miss(0, 390, 410);
        due("miss", s.clock(0, 0), 41);
        due("miss, least", s.clock(0, 1), -50);
        due("miss, greatest", s.clock(0, 2), -10);
        s.miss(0, -410, -390);
        due("miss on the other side, least", s.clock(0, 1), 10);
        due("miss on the other side, greatest", s.clock(0, 2), 50);
        s.net(2, 10, 1, 1);
        // 8 half wide at height 300: a miss at 0 is true by clocks up to -8 and from 8 on.
        s.miss(0, 0, 0);
        due("a hole in the clocks", s.clock(0, 0), 86);
        due("hole, least", s.clock(0, 1), -50);
        due("hole, greatest", s.clock(0, 2), 50);
        s.speed(3);
        due("a smaller hole", s.clock(0, 0), 96);
        s.speed(1);
        s.chord(0, 42, 42, 58, 58);
        due("50 ahead", s.clock(0, 1), 50);
        s.chord(0, 43, 43, 59, 59);
        due("51 can't be", s.clock(0, 0), 0);
        s.site(600, 0);
        s.miss(1, -1000, 1000);
        due("a miss where nothing goes, others bad", s.clock(1, 0), 0);
        s.unsay(0);
        due("a miss where nothing goes", s.clock(1, 0), 101);
        s.chord(1, -1000, 0, 0, 1000);
        due("a chord where nothing goes", s.clock(1, 0), 0);
    }

    private static void inside() {
        promise = 20;
        StarHide s = new StarHide();
        s.speed(1);
        for (int i = 0; i < 5; i++) {
            s.site(100 * i, 0);
        }
        due("without a chord", s.inside(0), 0);
        due("no area", s.inside(1), 0);
        s.chord(0, -10, 5, 5, 10);
        due("a place", s.inside(0), 1);
        due("of no area", s.inside(1), 0);
        s.chord(0, -10, -5, 5, 10);
        due("a line", s.inside(0), 2);
        due("of no area", s.inside(1), 0);
        s.chord(0, 0, 0, 0, 0);
        s.chord(1, 10, 10, 10, 10);
        s.chord(2, 20, 20, 20, 20);
        due("three in one line", s.inside(0), 2);
        due("area of a line", s.inside(1), 0);
        s.chord(2, 0, 20, 30, 40);
        due("a triangle with a place on its side", s.inside(0), 3);
        due("its area twice", s.inside(1), 2000);
        s.chord(4, 0, 0, 30, 30);
        due("all", s.inside(0), 4);
        // 0,0  30,200  30,400  0,400
        due("all twice", s.inside(1), 18000);
        due("what -1", s.inside(-1), -1);
        due("what 2", s.inside(2), -1);
    }

    private static void dueCorner(StarHide s, int k, int x, int y) {
        due("corner " + k + " along", s.corner(k, 0), x);
        due("corner " + k + " across", s.corner(k, 1), y);
    }

    private static void corner() {
        promise = 21;
        StarHide s = new StarHide();
        s.speed(1);
        s.site(100, 0);
        s.site(-100, 0);
        s.site(0, 0);
        s.chord(0, -30, -20, 20, 30);
        s.chord(1, -60, -50, 50, 60);
        s.chord(2, -90, -35, 70, 90);
        due("corners", s.inside(0), 5);
        // -35 is in the line from -50 to -20.
        dueCorner(s, 0, -50, -100);
        dueCorner(s, 1, 50, -100);
        dueCorner(s, 2, 70, 0);
        dueCorner(s, 3, 20, 100);
        dueCorner(s, 4, -20, 100);
        due("past the last", s.corner(5, 0), -1000000);
        due("below 0", s.corner(-1, 0), -1000000);
        due("what 2", s.corner(0, 2), -1000000);
        due("what -1", s.corner(0, -1), -1000000);
        s.unsay(0);
        s.unsay(1);
        dueCorner(s, 0, -35, 0);
        dueCorner(s, 1, 70, 0);
        s.speed(2);
        dueCorner(s, 0, -70, 0);
        s.chord(2, 0, 3, 3, 9);
        dueCorner(s, 0, 6, 0);
        due("one corner", s.corner(1, 0), -1000000);
        s.unsay(2);
        due("none", s.corner(0, 0), -1000000);
    }

    private static void quarrels() {
        promise = 22;
        StarHide s = new StarHide();
        s.speed(1);
        s.site(0, 0);
        s.site(100, 0);
        s.site(50, 0);
        due("no site", s.quarrels(3), -1);
        due("site below 0", s.quarrels(-1), -1);
        due("no report", s.quarrels(2), -1);
        s.cloud(2);
        due("cloud", s.quarrels(2), -1);
        s.chord(2, 0, 0, 0, 0);
        due("chord", s.quarrels(2), -1);
        s.miss(2, -1000, 1000);
        due("nothing is inside", s.quarrels(2), 0);
        s.chord(0, -100, -100, 100, 100);
        due("a line elsewhere", s.quarrels(2), 0);
        s.chord(1, 0, 0, 0, 0);
        due("right through", s.quarrels(2), 1);
        s.miss(2, 50, 70);
        due("from the border on", s.quarrels(2), 1);
        s.miss(2, 51, 70);
        due("outside at the right", s.quarrels(2), 0);
        s.miss(2, -70, -50);
        due("up to the border", s.quarrels(2), 1);
        s.miss(2, -70, -51);
        due("outside at the left", s.quarrels(2), 0);
        s.miss(2, 0, 0);
        due("in the middle", s.quarrels(2), 1);
        s.chord(0, 0, 0, 0, 0);
        s.chord(1, 1, 1, 1, 1);
        due("beside a slanting line", s.quarrels(2), 0);
        s.miss(2, 0, 1);
        due("across a slanting line, between ticks", s.quarrels(2), 1);
        s.miss(2, 1, 2);
        due("beyond it", s.quarrels(2), 0);
        s.site(150, 0);
        s.miss(3, -1000, 1000);
        due("above all", s.quarrels(3), 0);
        s.site(-50, 0);
        s.miss(4, -1000, 1000);
        due("below all", s.quarrels(4), 0);
        s.chord(1, 2, 2, 2, 2);
        s.miss(2, 1, 1);
        due("a place on a line", s.quarrels(2), 1);
        s.ahead(2, 1);
        due("a clock takes it off", s.quarrels(2), 0);
    }

    private static void dip() {
        promise = 23;
        StarHide s = new StarHide();
        due("no site", s.dip(0, 1, 2), -1);
        s.site(0, 0);
        due("a as b", s.dip(0, 1, 1), -1);
        due("a above b", s.dip(0, 2, 1), -1);
        due("too low", s.dip(0, -1001, 1), -1);
        due("too high", s.dip(0, 1, 1001), -1);
        due("site below 0", s.dip(-1, 1, 2), -1);
        due("no such site", s.dip(1, 1, 2), -1);
        due("widest", s.dip(0, -1000, 1000), 1);
        for (int i = 2; i <= 10; i++) {
            due("more at one site", s.dip(0, -i, i), i);
        }
        due("11th", s.dip(0, 1, 2), -1);
        due("all", s.all(4), 10);
    }

    private static void even() {
        promise = 24;
        StarHide s = new StarHide();
        due("-1", s.even(-1), -1);
        due("1001", s.even(1001), -1);
        due("extreme", s.even(LOW), -1);
        due("0", s.even(0), 10);
        due("1000", s.even(1000), 0);
        due("3", s.even(3), 1000);
        s.speed(1);
        s.site(0, 0);
        s.dip(0, -20, 23);
        due("3 off", s.ring(0, 0), 1);
        s.even(2);
        due("more than 2 off", s.ring(0, 0), 0);
        due("what it was", s.even(2), 2);
    }

    private static void calm() {
        promise = 25;
        StarHide s = new StarHide();
        due("none", s.calm(), 0);
        s.site(0, 0);
        s.dip(0, 1, 2);
        s.dip(0, 3, 4);
        s.even(7);
        due("two", s.calm(), 2);
        due("none left", s.all(4), 0);
        due("again", s.calm(), 0);
        due("the first anew", s.dip(0, 1, 2), 1);
        due("what is even stays", s.even(7), 7);
    }

    private static void ring() {
        promise = 26;
        StarHide s = new StarHide();
        s.net(0, 10, 5, 2);
        s.net(1, -4, 1, 1);
        due("no dips", s.ring(0, 0), 0);
        due("no dips, least", s.ring(0, 1), -1);
        due("no dips, greatest", s.ring(0, 2), -1);
        s.speed(1);
        s.site(0, 0);
        s.site(20, 5);
        s.dip(0, -30, 60);
        due("10 off is even", s.ring(0, 0), 1);
        due("least", s.ring(0, 1), 1616);
        due("greatest", s.ring(0, 2), 2516);
        due("0 off by the other", s.ring(1, 0), 1);
        due("least by the other", s.ring(1, 1), 2041);
        s.dip(1, 5, 26);
        // 0 and 21 by a middle of 10: 1 off; by 15: 9 off.
        due("two", s.ring(0, 0), 2);
        due("least of two", s.ring(0, 1), 676);
        due("greatest of two", s.ring(0, 2), 2516);
        s.dip(1, 5, 37);
        due("one not even", s.ring(0, 0), 2);
        due("then no least", s.ring(0, 1), -1);
        due("then no greatest", s.ring(0, 2), -1);
        due("all by the other", s.ring(1, 0), 3);
        s.ahead(1, 5);
        due("a clock moves dips", s.ring(0, 0), 3);
        due("no figure", s.ring(2, 0), -1);
        due("figure below 0", s.ring(-1, 0), -1);
        due("what 3", s.ring(0, 3), -1);
        due("what -1", s.ring(0, -1), -1);
        s.net(0, -15000, 1, 1);
        s.net(1, 2000, 1000, 8);
        s.calm();
        s.speed(10);
        s.site(-2000, -5000);
        s.ahead(2, -50);
        s.dip(2, 999, 1000);
        due("far, not even", s.ring(7, 0), 0);
        s.net(0, 15000, 495, 2);
        due("far, 5 to each side", s.ring(15, 2), 121000025);
    }

    private static void plan() {
        promise = 27;
        StarHide s = new StarHide();
        due("no sites", s.plan(1, 0, 10), -1);
        s.site(90, 0);
        s.site(10, 0);
        s.site(50, 0);
        s.site(40, 0);
        due("n 0", s.plan(0, 0, 100), -1);
        due("n below 0", s.plan(LOW, 0, 100), -1);
        due("n too many", s.plan(5, 0, 100), -1);
        due("n far too many", s.plan(HIGH, 0, 100), -1);
        due("no band", s.plan(1, 100, 100), -1);
        due("band upside down", s.plan(1, 100, 0), -1);
        due("band too low", s.plan(1, -2001, 100), -1);
        due("band too high", s.plan(1, 0, 2001), -1);
        due("widest", s.plan(1, -2000, 2000), 2010);
        due("one", s.plan(1, 0, 100), 50);
        due("two", s.plan(2, 0, 100), 50);
        due("three", s.plan(3, 0, 100), 40);
        due("four", s.plan(4, 0, 100), 40);
        due("ends of the band", s.plan(2, 10, 90), 40);
        due("band of two", s.plan(3, 41, 95), -1);
        due("gap to the upper end", s.plan(1, 0, 40), 30);
        due("not in the band", s.plan(3, 11, 50), -1);
    }

    private static void planned() {
        promise = 28;
        StarHide s = new StarHide();
        due("no plan", s.planned(0), -1);
        s.site(90, 0);
        s.site(10, 0);
        s.site(50, 0);
        s.site(40, 0);
        s.plan(2, 0, 100);
        // 10 and 50, 40 and 50, 40 and 90, 50 and 90 are all 50 apart at most: 10 is lowest.
        due("lower", s.planned(0), 1);
        due("upper", s.planned(1), 2);
        due("past the last", s.planned(2), -1);
        due("below 0", s.planned(-1), -1);
        s.plan(3, 0, 100);
        due("first of three", s.planned(0), 1);
        due("second of three", s.planned(1), 2);
        due("third of three", s.planned(2), 0);
        s.plan(9, 0, 100);
        due("a refused one changes nothing", s.planned(2), 0);
        s.site(-5, 0);
        due("nor does a new site", s.planned(0), 1);
        s.plan(1, 0, 100);
        due("one", s.planned(0), 2);
        due("and no more", s.planned(1), -1);
        s.plan(2, -5, 40);
        // The lower end and 10, or 10 and the upper end: 30 apart at most.
        due("at the lower end", s.planned(0), 4);
        due("then 10", s.planned(1), 1);
    }

    private static void all() {
        promise = 29;
        StarHide s = new StarHide();
        for (int i = 0; i < 10; i++) {
            s.site(i, 0);
        }
        s.chord(0, 1, 2, 3, 4);
        s.chord(1, 1, 2, 3, 4);
        s.chord(2, 1, 2, 3, 4);
        s.chord(3, 1, 2, 3, 4);
        s.miss(4, 1, 2);
        s.miss(5, 1, 2);
        s.miss(6, 1, 2);
        s.cloud(7);
        s.cloud(8);
        s.dip(9, 1, 2);
        due("sites", s.all(0), 10);
        due("chords", s.all(1), 4);
        due("misses", s.all(2), 3);
        due("clouds", s.all(3), 2);
        due("dips", s.all(4), 1);
        due("what 5", s.all(5), -1);
        due("what -1", s.all(-1), -1);
        due("extreme", s.all(LOW), -1);
    }

    /** The dearest run: all kept answers thrown away before each question, to the 512th call. */
    private static void manyCalls() {
        promise = 0;
        StarHide s = new StarHide();
        int calls = 4;
        s.net(0, -40, 10, 8);
        s.net(1, -40, 10, 8);
        s.net(2, 400, 10, 8);
        s.net(3, 400, 10, 8);
        for (int i = 0; i < 16; i++) {
            due("site", s.site(-375 + 50 * i, 0), i);
            due("miss", s.miss(i, 500, 600), true);
            calls += 2;
        }
        while (calls + 2 <= 512) {
            s.speed(1 + calls % 10);
            due("all fit", s.clock(calls % 16, 0), 101);
            calls += 2;
        }
    }
}

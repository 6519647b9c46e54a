import java.util.ArrayList;
import java.util.List;
import java.util.function.Consumer;
import java.util.function.ToLongFunction;

/**
 * What was asked before has no say: for each change and each question, one object is asked everything,
 * changed, and asked that question first; its twin is only changed and asked. Both answer the same.
 */
public final class AskedBeforeTest {

    private static final List<String> CHANGE_NAMES = new ArrayList<>();
    private static final List<Consumer<StarHide>> CHANGES = new ArrayList<>();
    private static final List<String> QUESTION_NAMES = new ArrayList<>();
    private static final List<ToLongFunction<StarHide>> QUESTIONS = new ArrayList<>();

    public static void main(String[] args) {
        listChanges();
        listQuestions();
        int wrong = 0;
        int moved = 0;
        for (int c = 0; c < CHANGES.size(); c++) {
            boolean seen = false;
            for (int q = 0; q < QUESTIONS.size(); q++) {
                StarHide old = state();
                for (ToLongFunction<StarHide> question : QUESTIONS) {
                    question.applyAsLong(old);
                }
                long before = QUESTIONS.get(q).applyAsLong(old);
                CHANGES.get(c).accept(old);
                long got = QUESTIONS.get(q).applyAsLong(old);
                StarHide twin = state();
                CHANGES.get(c).accept(twin);
                long want = QUESTIONS.get(q).applyAsLong(twin);
                seen |= want != before;
                if (got != want) {
                    wrong++;
                    System.out.println(QUESTION_NAMES.get(q) + " after " + CHANGE_NAMES.get(c) + " answered " + got
                        + ", the twin's is " + want);
                }
            }
            // A change that no question tells of would be no test.
            if (seen) {
                moved++;
            } else {
                wrong++;
                System.out.println("nothing tells of " + CHANGE_NAMES.get(c));
            }
        }
        System.out.println(wrong == 0 ? moved + " changes are seen at once" : wrong + " answers are not as due");
        if (wrong != 0) {
            System.exit(1);
        }
    }

    private static StarHide state() {
        StarHide s = new StarHide();
        s.speed(2);
        s.site(0, 3);
        s.site(30, -4);
        s.site(-30, 0);
        s.site(60, 5);
        s.site(45, 0);
        s.ahead(1, 2);
        s.net(0, -10, 10, 3);
        s.net(1, -5, 5, 2);
        s.net(2, 40, 10, 3);
        s.net(3, 65, 30, 2);
        s.chord(0, -25, -15, 20, 29);
        s.chord(3, -9, -3, 10, 15);
        s.miss(1, 15, 25);
        s.cloud(2);
        s.even(12);
        s.dip(0, -40, 41);
        s.dip(3, -30, 33);
        s.plan(2, -50, 80);
        return s;
    }

    private static void change(String name, Consumer<StarHide> change) {
        CHANGE_NAMES.add(name);
        CHANGES.add(change);
    }

    private static void question(String name, ToLongFunction<StarHide> question) {
        QUESTION_NAMES.add(name);
        QUESTIONS.add(question);
    }

    private static void listChanges() {
        change("speed", s -> s.speed(3));
        change("a new site", s -> s.site(-60, 0));
        change("a new site with a false miss", s -> {
            s.site(-20, 0);
            s.miss(5, 0, 0);
        });
        for (int site = 0; site < 5; site++) {
            int at = site;
            change("ahead at " + site, s -> {
                s.ahead(at, 9);
                s.dip(at, -40, 44);
            });
            change("chord at " + site, s -> s.chord(at, -11, -10, 10, 11));
            change("miss at " + site, s -> s.miss(at, -1, 1));
            if (at != 2) {
                change("cloud at " + site, s -> s.cloud(at));
            }
            if (at != 4) {
                change("unsay at " + site, s -> s.unsay(at));
            }
        }
        change("the clock of a chord", s -> s.ahead(0, 9));
        change("the clock of a miss", s -> s.ahead(1, 9));
        change("row x", s -> s.net(0, -20, 15, 2));
        change("row y", s -> s.net(1, -15, 25, 3));
        change("row w", s -> s.net(2, 45, 7, 2));
        change("row h", s -> s.net(3, 50, 20, 3));
        change("a dip", s -> s.dip(1, -9, 10));
        change("even", s -> s.even(0));
        change("calm", StarHide::calm);
        change("a plan", s -> s.plan(1, -40, 40));
    }

    private static void listQuestions() {
        for (int i = 0; i < 6; i++) {
            int at = i;
            question("agrees(0, " + i + ")", s -> s.agrees(0, at));
            question("agrees(17, " + i + ")", s -> s.agrees(17, at));
            question("isBad(" + i + ")", s -> s.isBad(at));
            question("quarrels(" + i + ")", s -> s.quarrels(at));
            question("place(" + i + ")", s -> s.place(at, 10));
            for (int what = 0; what <= 2; what++) {
                int of = what;
                question("clock(" + i + ", " + what + ")", s -> s.clock(at, of));
            }
            question("corner(" + i + ", 0)", s -> s.corner(at, 0));
            question("corner(" + i + ", 1)", s -> s.corner(at, 1));
            question("all(" + i + ")", s -> s.all(at));
            question("fits(" + i + ")", s -> s.fits(at));
            question("planned(" + i + ")", s -> s.planned(at));
        }
        for (int i = 0; i <= 2; i++) {
            int of = i;
            question("bad(" + i + ")", s -> s.bad(of));
            question("inside(" + i + ")", s -> s.inside(of));
            question("ring(0, " + i + ")", s -> s.ring(0, of));
            question("ring(20, " + i + ")", s -> s.ring(20, of));
        }
        for (int what = 0; what <= 3; what++) {
            int of = what;
            question("figure(0, " + what + ")", s -> s.figure(0, of));
            question("figure(17, " + what + ")", s -> s.figure(17, of));
        }
        question("figures", StarHide::figures);
        question("fitting", StarHide::fitting);
        question("least size", s -> s.size(false));
        question("greatest size", s -> s.size(true));
    }
}

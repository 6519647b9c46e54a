import com.sun.management.ThreadMXBean;
import java.lang.management.ManagementFactory;
import java.lang.reflect.Array;
import java.lang.reflect.Field;
import java.lang.reflect.Modifier;
import java.util.ArrayDeque;
import java.util.Collections;
import java.util.Deque;
import java.util.IdentityHashMap;
import java.util.Set;

/**
 * All calls of a run live in one room of some 600,000 objects and 7.3 million fields and elements. So an
 * object with all its sites must be small, and no call but the making of an object or a site makes anything.
 */
public final class RoomTest {

    /** Even if each of 512 calls made such an object, all would fit. */
    private static final int MOST_OBJECTS = 600_000 / 512;
    private static final int MOST_ELEMENTS = 7_300_000 / 512;
    /** One small object in a call that is made seldom would be more. */
    private static final long MOST_BYTES = 15;

    private static int wrong = 0;

    public static void main(String[] args) throws IllegalAccessException {
        checkSize("a new object", new StarHide());
        StarHide used = withAllSites();
        checkSize("an object with all sites", used);
        useAll(used);
        checkSize("an object that was used", used);
        checkNothingIsMade();
        System.out.println(wrong == 0 ? "all fits in the room" : wrong + " faults");
        if (wrong != 0) {
            System.exit(1);
        }
    }

    private static StarHide withAllSites() {
        StarHide s = new StarHide();
        for (int i = 0; i < 16; i++) {
            s.site(-300 + 40 * i, 10 * i);
        }
        return s;
    }

    /** Every call but the making of an object or a site, taken and refused: fewer than 480 in all. */
    private static long useAll(StarHide s) {
        // Asked before any report is there, as after them few figures or none may fit.
        long sum = s.fits(0) + s.size(true) + s.clock(3, 1) + s.dip(0, -20, 20) + s.ring(0, 2);
        for (int row = -1; row < 5; row++) {
            sum += bit(s.net(row, row < 2 ? -40 : 300, 10, 8));
        }
        for (int i = 0; i < 17; i++) {
            sum += tell(s, i) + ask(s, i);
        }
        return sum + s.figures() + s.calm() + s.site(-300, 0) + s.site(2001, 0);
    }

    private static long tell(StarHide s, int i) {
        long sum = s.speed(i % 12) + s.ahead(i, i - 3) + s.dip(i, -20, 20) + s.even(100 * i);
        if (i % 4 == 0) {
            sum += bit(s.miss(i, -60, 60 - 20 * i)) + bit(s.cloud(i)) + bit(s.unsay(i));
        }
        return sum + bit(i % 3 == 0 ? s.miss(i, -60, -40) : s.chord(i, -60, -10, 10, 60));
    }

    private static long ask(StarHide s, int i) {
        return s.place(i, i) + s.figure(i, i % 5) + s.agrees(17 * i, i) + s.fitting() + s.fits(i)
            + s.size(i % 2 == 0) + s.bad(i % 3) + s.isBad(i) + s.clock(i, i % 4) + s.inside(i % 3)
            + s.corner(i, i % 3) + s.quarrels(i) + s.ring(i, i % 4) + s.plan(i, -300, 300) + s.planned(i)
            + s.all(i % 6);
    }

    private static long bit(boolean b) {
        return b ? 1 : 0;
    }

    private static void checkSize(String what, StarHide s) throws IllegalAccessException {
        Set<Object> seen = Collections.newSetFromMap(new IdentityHashMap<>());
        Deque<Object> open = new ArrayDeque<>();
        open.add(s);
        int elements = 0;
        while (!open.isEmpty()) {
            Object one = open.remove();
            if (seen.add(one)) {
                elements += one.getClass().isArray() ? addElements(one, open) : addFields(one, open);
            }
        }
        if (seen.size() > MOST_OBJECTS || elements > MOST_ELEMENTS) {
            wrong++;
            System.out.println(what + " has " + seen.size() + " objects, " + elements + " fields and elements");
        }
    }

    private static int addElements(Object row, Deque<Object> open) {
        if (!row.getClass().getComponentType().isPrimitive()) {
            for (Object one : (Object[]) row) {
                if (one != null) {
                    open.add(one);
                }
            }
        }
        return Array.getLength(row);
    }

    private static int addFields(Object one, Deque<Object> open) throws IllegalAccessException {
        int count = 0;
        for (Field field : one.getClass().getDeclaredFields()) {
            if (!Modifier.isStatic(field.getModifiers())) {
                count++;
                field.setAccessible(true);
                if (!field.getType().isPrimitive() && field.get(one) != null) {
                    open.add(field.get(one));
                }
            }
        }
        return count;
    }

    private static void checkNothingIsMade() {
        if (!(ManagementFactory.getThreadMXBean() instanceof ThreadMXBean)) {
            return;
        }
        ThreadMXBean machine = (ThreadMXBean) ManagementFactory.getThreadMXBean();
        long self = Thread.currentThread().getId();
        StarHide s = withAllSites();
        // The first time of all makes things of the machine's own.
        machine.getThreadAllocatedBytes(self);
        useAll(withAllSites());
        long before = machine.getThreadAllocatedBytes(self);
        useAll(s);
        long made = machine.getThreadAllocatedBytes(self) - before;
        if (made > MOST_BYTES) {
            wrong++;
            System.out.println("calls that tell and ask made " + made + " bytes");
        }
    }
}

import java.io.IOException;
import java.lang.reflect.Method;
import java.lang.reflect.Modifier;
import java.nio.file.Files;
import java.nio.file.Path;
import java.util.List;

/** What README.md shows is what the class answers, and it names every call. */
public final class ReadmeTest {

    private static int wrong = 0;
    private static List<String> lines;

    public static void main(String[] args) throws IOException {
        lines = Files.readAllLines(Path.of("README.md"));
        checkExample();
        checkNames();
        System.out.println(wrong == 0 ? "README.md is right" : wrong + " faults");
        if (wrong != 0) {
            System.exit(1);
        }
    }

    private static void checkExample() {
        StarHide house = new StarHide();
        shown("house.speed(1);", house.speed(1), 5);
        int low = house.site(0, 0);
        int high = house.site(300, 0);
        shown("int low = house.site(0, 0);", low, 0);
        shown("int high = house.site(300, 0);", high, 1);
        shown("house.net(0, -20, 10, 5);", house.net(0, -20, 10, 5) ? 1 : 0, 1);
        shown("house.net(2, 480, 10, 5);", house.net(2, 480, 10, 5) ? 1 : 0, 1);
        shown("house.net(3, 500, 1, 1);", house.net(3, 500, 1, 1) ? 1 : 0, 1);
        shown("house.chord(low, -510, -490, 490, 510);", house.chord(low, -510, -490, 490, 510) ? 1 : 0, 1);
        shown("house.chord(high, -405, -395, 395, 405);", house.chord(high, -405, -395, 395, 405) ? 1 : 0, 1);
        told("house.fitting();", house.fitting());
        told("house.fits(0);", house.fits(0));
        told("house.figure(12, 2);", house.figure(12, 2));
        told("house.clock(high, 0);", house.clock(high, 0));
        int calls = 0;
        for (String line : lines) {
            calls += line.contains("house.") ? 1 : 0;
        }
        // A line more in README.md would be one that is not looked at here.
        if (calls != 12) {
            fault("README.md shows " + calls + " calls");
        }
    }

    private static void fault(String text) {
        wrong++;
        System.out.println(text);
    }

    private static String lineOf(String call) {
        for (String line : lines) {
            if (line.startsWith(call)) {
                return line;
            }
        }
        fault("README.md does not show " + call);
        return "";
    }

    private static void shown(String call, int got, int due) {
        lineOf(call);
        if (got != due) {
            fault(call + " answered " + got + ", due is " + due);
        }
    }

    /** The answer stands at the end of the line. */
    private static void told(String call, int got) {
        if (!lineOf(call).endsWith(": " + got)) {
            fault(call + " answered " + got + ", README.md says: " + lineOf(call));
        }
    }

    private static void checkNames() {
        StringBuilder table = new StringBuilder();
        for (String line : lines) {
            table.append(line.startsWith("|") ? line : "");
        }
        for (Method method : StarHide.class.getDeclaredMethods()) {
            if (Modifier.isPublic(method.getModifiers()) && table.indexOf("`" + method.getName() + "`") < 0) {
                fault("README.md's table does not name " + method.getName());
            }
        }
    }
}

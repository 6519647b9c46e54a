import java.io.IOException;
import java.lang.reflect.Constructor;
import java.lang.reflect.Field;
import java.lang.reflect.Method;
import java.lang.reflect.Modifier;
import java.nio.file.Files;
import java.nio.file.Path;
import java.util.List;
import java.util.Set;
import java.util.TreeSet;
import java.util.regex.Matcher;
import java.util.regex.Pattern;

/** The public face is the document's and no more, and the source keeps to what LANGUAGE.md leaves. */
public final class FaceTest {

    private static final Set<String> FACE = Set.of("int speed(int)", "int site(int,int)", "int ahead(int,int)",
        "boolean chord(int,int,int,int,int)", "boolean miss(int,int,int)", "boolean cloud(int)", "boolean unsay(int)",
        "int place(int,int)", "boolean net(int,int,int,int)", "int figures()", "int figure(int,int)",
        "int agrees(int,int)", "int fitting()", "int fits(int)", "int size(boolean)", "int bad(int)", "int isBad(int)",
        "int clock(int,int)", "int inside(int)", "int corner(int,int)", "int quarrels(int)", "int dip(int,int,int)",
        "int even(int)", "int calm()", "long ring(int,int)", "int plan(int,int,int)", "int planned(int)",
        "int all(int)");

    private static final String[] FORBIDDEN = {"throw", "throws", "try", "catch", "finally", "synchronized", "assert",
        "static\\s*\\{", "->", "::", "package", "volatile", "native", "transient", "new\\s+Thread", "System\\.(?!arraycopy)",
        "\\w+Exact\\s*\\(", "Math\\.(random|sqrt|pow|floor|ceil)\\s*\\(", "var\\s", "hashCode", "toString", "protected",
        "while\\s*\\(\\s*true", "for\\s*\\([^;]*;\\s*;", "double", "float", "random"};

    private static int wrong = 0;

    private static void fault(String text) {
        wrong++;
        System.out.println(text);
    }

    public static void main(String[] args) throws IOException {
        checkMethods();
        checkRest();
        checkSource();
        checkLengths();
        System.out.println(wrong == 0 ? "the face and the source are as due" : wrong + " faults");
        if (wrong != 0) {
            System.exit(1);
        }
    }

    private static void checkMethods() {
        Set<String> found = new TreeSet<>();
        Set<String> names = new TreeSet<>();
        for (Method m : StarHide.class.getDeclaredMethods()) {
            if (Modifier.isPublic(m.getModifiers())) {
                StringBuilder text = new StringBuilder(m.getReturnType() + " " + m.getName() + "(");
                for (int i = 0; i < m.getParameterCount(); i++) {
                    text.append(i == 0 ? "" : ",").append(m.getParameterTypes()[i]);
                }
                found.add(text.append(")").toString());
                names.add(m.getName());
            }
        }
        if (!found.equals(new TreeSet<>(FACE))) {
            fault("the public methods are " + found);
        }
        for (Class<?> c : withNested()) {
            for (Method m : c.getDeclaredMethods()) {
                if (!Modifier.isPublic(m.getModifiers()) && names.contains(m.getName())) {
                    fault("a method that is not public bears a public one's name: " + m);
                }
                if (c == StarHide.class && !Modifier.isPublic(m.getModifiers())
                    && !Modifier.isPrivate(m.getModifiers())) {
                    fault("neither public nor private: " + m);
                }
                if (m.getParameterCount() > 7) {
                    fault("too many parameters: " + m);
                }
            }
        }
    }

    private static Class<?>[] withNested() {
        Class<?>[] nested = StarHide.class.getDeclaredClasses();
        Class<?>[] all = new Class<?>[nested.length + 1];
        all[0] = StarHide.class;
        System.arraycopy(nested, 0, all, 1, nested.length);
        return all;
    }

    private static void checkRest() {
        if (!Modifier.isFinal(StarHide.class.getModifiers()) || !Modifier.isPublic(StarHide.class.getModifiers())) {
            fault("the class is not public and final");
        }
        Constructor<?>[] made = StarHide.class.getDeclaredConstructors();
        if (made.length != 1 || made[0].getParameterCount() != 0 || !Modifier.isPublic(made[0].getModifiers())) {
            fault("there is not just one public constructor without arguments");
        }
        for (Class<?> c : withNested()) {
            int own = 0;
            for (Field f : c.getDeclaredFields()) {
                own += Modifier.isStatic(f.getModifiers()) ? 0 : 1;
            }
            if (own > 20) {
                fault("too many fields: " + c);
            }
            for (Field f : c.getDeclaredFields()) {
                boolean none = f.getName().equals("NONE") && f.getType() == int.class && c == StarHide.class;
                if (c == StarHide.class && Modifier.isPrivate(f.getModifiers()) == none) {
                    fault("a field of the wrong kind: " + f);
                }
                if (Modifier.isStatic(f.getModifiers()) && !Modifier.isFinal(f.getModifiers())) {
                    fault("static and not final: " + f);
                }
            }
        }
        if (withNested().length > 12) {
            fault("too many classes");
        }
    }

    private static void checkSource() throws IOException {
        String text = Files.readString(Path.of("src/main/java/StarHide.java"));
        String code = text.replaceAll("(?s)/\\*.*?\\*/", " ").replaceAll("//[^\n]*", " ");
        for (String word : FORBIDDEN) {
            String edge = Character.isLetter(word.charAt(0)) ? "\\b" : "";
            Matcher at = Pattern.compile(edge + word + (Character.isLetter(word.charAt(word.length() - 1)) ? "\\b" : ""))
                .matcher(code);
            if (at.find()) {
                fault("not allowed: " + at.group());
            }
        }
        Matcher imports = Pattern.compile("import\\s+([^;]+);").matcher(code);
        while (imports.find()) {
            if (!Set.of("java.util.Arrays", "java.util.ArrayList", "java.util.List").contains(imports.group(1))) {
                fault("import of " + imports.group(1));
            }
        }
    }

    /** No method over sixty lines: a method is what opens in a class and is no class. */
    private static void checkLengths() throws IOException {
        int depth = 0;
        int start = -1;
        int startDepth = 0;
        List<String> lines = Files.readAllLines(Path.of("src/main/java/StarHide.java"));
        for (int i = 0; i < lines.size(); i++) {
            String line = lines.get(i);
            boolean opens = line.endsWith("{") && !line.contains(" class ");
            if (start < 0 && opens && line.contains(")")) {
                start = i;
                startDepth = depth;
            }
            for (char sign : line.toCharArray()) {
                depth += sign == '{' ? 1 : sign == '}' ? -1 : 0;
            }
            if (start >= 0 && depth <= startDepth) {
                if (i - start > 60) {
                    fault("a long method: " + lines.get(start).trim());
                }
                start = -1;
            }
        }
        if (depth != 0) {
            fault("braces are not even, so lengths are not known");
        }
    }
}

import java.io.IOException;
import java.lang.reflect.Constructor;
import java.lang.reflect.Field;
import java.lang.reflect.Method;
import java.lang.reflect.Modifier;
import java.nio.file.Files;
import java.nio.file.Path;
import java.util.Arrays;
import java.util.Set;
import java.util.TreeSet;
import java.util.regex.Matcher;
import java.util.regex.Pattern;

/** The public face of the document, and the rules of LANGUAGE.md that can be seen in the text. */
public final class FaceTests {
    private static final Path SOURCE = Path.of("src/main/java/TripPanel.java");
    private static final String[] FACE = {
        "make(int, boolean)", "limit(int, boolean, int)", "open(int, boolean)", "band(int, int)", "take(int, int)",
        "gap(int)", "clear(int)", "shown(int)", "mark(int, boolean)", "stale(int)", "stands(int, int, int)",
        "between(int, int, int, int, boolean)", "level(int, int, int, int, boolean)", "holds(int)", "trip(int, int)",
        "part(int, int)", "scan()", "reset(int)", "votes(int)", "tripped(int)", "order(int)", "extreme(boolean)",
        "since(int, int, int)", "counted(int, int, int)", "event(int, int)", "about(int)",
    };
    private static final String[] BANNED = {
        "\\bthrow\\b", "\\btry\\b", "\\bcatch\\b", "\\bsynchronized\\b", "\\bassert\\b", "->", "::", "\\bimport\\b",
        "\\bpackage\\b", "\\bSystem\\.(?!arraycopy)", "Exact\\(", "\\bNaN\\b", "\\bstatic\\s*\\{", "\\bprotected\\b",
        "\\bequals\\b", "\\bhashCode\\b", "\\btoString\\b",
    };
    private static int wrong = 0;

    private static void need(boolean holds, String what) {
        if (!holds) {
            wrong++;
            System.out.println("not so: " + what);
        }
    }

    private static String told(String name, Class<?>[] types) {
        StringBuilder text = new StringBuilder(name).append('(');
        for (int i = 0; i < types.length; i++) {
            text.append(i == 0 ? "" : ", ").append(types[i].getName());
        }
        return text.append(')').toString();
    }

    private static void face() {
        int kind = TripPanel.class.getModifiers();
        need(Modifier.isPublic(kind) && Modifier.isFinal(kind), "the class is public and final");
        Set<String> open = new TreeSet<>();
        for (Method m : TripPanel.class.getDeclaredMethods()) {
            if (!Modifier.isPrivate(m.getModifiers())) {
                need(Modifier.isPublic(m.getModifiers()) && m.getReturnType() == int.class, m + " is public int");
                open.add(told(m.getName(), m.getParameterTypes()));
            }
        }
        need(open.equals(new TreeSet<>(Arrays.asList(FACE))), "the methods are those of the document: " + open);
        Constructor<?>[] constructors = TripPanel.class.getDeclaredConstructors();
        need(constructors.length == 1 && Modifier.isPublic(constructors[0].getModifiers())
            && constructors[0].getParameterCount() == 0, "one public constructor without parameters");
    }

    private static void fields() {
        Set<String> open = new TreeSet<>();
        for (Field f : TripPanel.class.getDeclaredFields()) {
            int kind = f.getModifiers();
            if (!Modifier.isPrivate(kind)) {
                need(Modifier.isPublic(kind) && Modifier.isStatic(kind) && Modifier.isFinal(kind), f + " is a constant");
                open.add(f.getName());
            }
            need(!Modifier.isStatic(kind) || Modifier.isFinal(kind), f + ": static fields are final");
        }
        need(open.equals(Set.of("NONE", "GAP")), "the constants are NONE and GAP: " + open);
        need(TripPanel.NONE == -1 && TripPanel.GAP == 2000000000, "the constants' values");
    }

    private static void classesInside() {
        Set<String> faceNames = new TreeSet<>();
        for (String f : FACE) {
            faceNames.add(f.substring(0, f.indexOf('(')));
        }
        for (Class<?> c : TripPanel.class.getDeclaredClasses()) {
            need(Modifier.isStatic(c.getModifiers()), c + " is static");
            need(!Modifier.isPublic(c.getModifiers()), c + " is not public");
            for (Method m : c.getDeclaredMethods()) {
                need(!faceNames.contains(m.getName()), m + " bears a name of the face");
            }
        }
        for (Method m : TripPanel.class.getDeclaredMethods()) {
            need(!Modifier.isPrivate(m.getModifiers()) || !faceNames.contains(m.getName()),
                m + " bears a name of the face");
        }
    }

    private static void text() throws IOException {
        String source = Files.readString(SOURCE);
        String code = source.replaceAll("(?s)/\\*.*?\\*/", " ").replaceAll("//[^\n]*", " ");
        for (String banned : BANNED) {
            Matcher found = Pattern.compile(banned).matcher(code);
            need(!found.find(), "the text has no " + banned);
        }
    }

    public static void main(String[] args) throws IOException {
        face();
        fields();
        classesInside();
        text();
        System.out.println(wrong == 0 ? "the face is as due" : wrong + " things are not as due");
        if (wrong != 0) {
            System.exit(1);
        }
    }
}

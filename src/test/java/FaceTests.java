import java.io.IOException;
import java.lang.reflect.Constructor;
import java.lang.reflect.Field;
import java.lang.reflect.Method;
import java.lang.reflect.Modifier;
import java.nio.file.Files;
import java.nio.file.Path;
import java.util.Arrays;
import java.util.Map;
import java.util.Set;
import java.util.TreeMap;
import java.util.TreeSet;
import java.util.regex.Matcher;
import java.util.regex.Pattern;

/** The public face of the document, and the rules of LANGUAGE.md that can be seen in the text. */
public final class FaceTests {
    private static final Path SOURCE = Path.of("src/main/java/TripPanel.java");
    private static final String[] FACE = {
        "make(int, boolean)", "limit(int, boolean, int)", "open(int, boolean)", "band(int, int)", "take(int, int)",
        "gap(int)", "clear(int)", "shown(int)", "mark(int, boolean)", "stale(int)", "stands(int, int, int)",
        "between(int, int, int, int, boolean)", "level(int, int, int, int, boolean)", "holds(int)", "trip(int, int)",
        "part(int, int)", "scan()", "reset(int)", "votes(int)", "tripped(int)", "order(int)", "extreme(boolean)",
        "since(int, int, int)", "counted(int, int, int)", "event(int, int)", "about(int)",
    };
    private static final String[] BANNED = {
        "\\bthrow\\b", "\\btry\\b", "\\bcatch\\b", "\\bsynchronized\\b", "\\bassert\\b", "->", "::", "\\bimport\\b",
        "\\bpackage\\b", "\\bSystem\\.(?!arraycopy)", "Exact\\(", "\\bNaN\\b", "\\bstatic\\s*\\{", "\\bprotected\\b",
        "\\bequals\\b", "\\bhashCode\\b", "\\btoString\\b",
    };
    private static int wrong = 0;

    private static void need(boolean holds, String what) {
        if (!holds) {
            wrong++;
            System.out.println("not so: " + what);
        }
    }

    private static String told(String name, Class<?>[] types) {
        StringBuilder text = new StringBuilder(name).append('(');
        for (int i = 0; i < types.length; i++) {
            text.append(i == 0 ? "" : ", ").append(types[i].getName());
        }
        return text.append(')').toString();
    }

    private static void face() {
        int kind = TripPanel.class.getModifiers();
        need(Modifier.isPublic(kind) && Modifier.isFinal(kind), "the class is public and final");
        Set<String> open = new TreeSet<>();
        for (Method m : TripPanel.class.getDeclaredMethods()) {
            if (!Modifier.isPrivate(m.getModifiers())) {
                need(Modifier.isPublic(m.getModifiers()) && m.getReturnType() == int.class, m + " is public int");
                open.add(told(m.getName(), m.getParameterTypes()));
            }
        }
        need(open.equals(new TreeSet<>(Arrays.asList(FACE))), "the methods are those of the document: " + open);
        Constructor<?>[] constructors = TripPanel.class.getDeclaredConstructors();
        need(constructors.length == 1 && Modifier.isPublic(constructors[0].getModifiers())
            && constructors[0].getParameterCount() == 0, "one public constructor without parameters");
    }

    private static void fields() {
        Set<String> open = new TreeSet<>();
        for (Field f : TripPanel.class.getDeclaredFields()) {
            int kind = f.getModifiers();
            if (!Modifier.isPrivate(kind)) {
                need(Modifier.isPublic(kind) && Modifier.isStatic(kind) && Modifier.isFinal(kind), f + " is a constant");
                open.add(f.getName());
            }
            need(!Modifier.isStatic(kind) || Modifier.isFinal(kind), f + ": static fields are final");
        }
        need(open.equals(Set.of("NONE", "GAP")), "the constants are NONE and GAP: " + open);
        need(TripPanel.NONE == -1 && TripPanel.GAP == 2000000000, "the constants' values");
    }

    private static void classesInside() {
        Set<String> faceNames = new TreeSet<>();
        for (String f : FACE) {
            faceNames.add(f.substring(0, f.indexOf('(')));
        }
        for (Class<?> c : TripPanel.class.getDeclaredClasses()) {
            need(Modifier.isStatic(c.getModifiers()), c + " is static");
            need(!Modifier.isPublic(c.getModifiers()), c + " is not public");
            for (Method m : c.getDeclaredMethods()) {
                need(!faceNames.contains(m.getName()), m + " bears a name of the face");
            }
        }
        for (Method m : TripPanel.class.getDeclaredMethods()) {
            need(!Modifier.isPrivate(m.getModifiers()) || !faceNames.contains(m.getName()),
                m + " bears a name of the face");
        }
    }

    private static String codeWithoutComments() throws IOException {
        return Files.readString(SOURCE).replaceAll("(?s)/\\*.*?\\*/", " ").replaceAll("//[^\n]*", " ");
    }

    private static void text() throws IOException {
        String code = codeWithoutComments();
        for (String banned : BANNED) {
            Matcher found = Pattern.compile(banned).matcher(code);
            need(!found.find(), "the text has no " + banned);
        }
    }

    /** The bodies of all methods and constructors by name; methods of one name are taken together. */
    private static Map<String, String> bodies(String code) {
        Map<String, String> bodies = new TreeMap<>();
        Matcher head = Pattern.compile("(?m)^ +(?!return|new|else)(?:[\\w\\[\\]]+ )*(\\w+)\\(([^()]*)\\) \\{$").matcher(code);
        while (head.find()) {
            if (Set.of("if", "for", "while", "switch").contains(head.group(1))) {
                continue;
            }
            int end = head.end();
            for (int open = 1; open > 0; end++) {
                open += code.charAt(end) == '{' ? 1 : code.charAt(end) == '}' ? -1 : 0;
            }
            String body = code.substring(head.end(), end);
            need(body.split("\n").length <= 60, head.group(1) + " is short");
            need(head.group(2).split(",").length <= 7, head.group(1) + " takes at most seven parameters");
            bodies.merge(head.group(1), body, String::concat);
        }
        return bodies;
    }

    private static int depth(Map<String, String> bodies, String name, int above) {
        if (above > 50) {
            return above;
        }
        int deepest = 1;
        Matcher call = Pattern.compile("(\\w+)\\(").matcher(bodies.get(name));
        while (call.find()) {
            if (bodies.containsKey(call.group(1))) {
                deepest = Math.max(deepest, 1 + depth(bodies, call.group(1), above + 1));
            }
        }
        return deepest;
    }

    private static void callsAreShallow() throws IOException {
        Map<String, String> bodies = bodies(codeWithoutComments());
        for (String f : FACE) {
            String name = f.substring(0, f.indexOf('('));
            need(bodies.containsKey(name), name + " was found in the text");
            if (bodies.containsKey(name)) {
                int depth = depth(bodies, name, 0);
                need(depth <= 8, name + " goes at most eight calls deep, not " + depth);
            }
        }
    }

    public static void main(String[] args) throws IOException {
        face();
        fields();
        classesInside();
        text();
        callsAreShallow();
        System.out.println(wrong == 0 ? "the face is as due" : wrong + " things are not as due");
        if (wrong != 0) {
            System.exit(1);
        }
    }
}

import java.io.IOException;
import java.lang.reflect.Constructor;
import java.lang.reflect.Field;
import java.lang.reflect.Method;
import java.lang.reflect.Modifier;
import java.nio.file.Files;
import java.nio.file.Path;
import java.util.Set;
import java.util.TreeSet;
import java.util.regex.Pattern;

/** The class's face is the document's and no more, and its text has nothing that LANGUAGE.md leaves out. */
public final class FaceTest {
    private static final Checks CHECKS = new Checks();

    private static final Set<String> METHODS = Set.of("int cell(int, int, int, int)",
            "int link(int, int, int, int, int, int)", "int clear()", "int reset()", "int set(int, int, int)",
            "int run(int)", "int count(int)", "int of(int, int)", "int counted(int)", "int event(int, int)",
            "int ring(int)", "long ringed(int)", "int drawer(int)", "int parts(int, int, int)",
            "int part(int, int, int, int)", "int measure(int, int)", "int forget()", "int faults(int)",
            "int fault(int, int)", "int fits(int)");

    private static final String[] LEFT_OUT = {"->", "::", "Exact\\(", "\\bcatch\\b", "\\bfinally\\b",
            "\\bsynchronized\\b", "\\bassert\\b", "\\bdouble\\b", "\\bfloat\\b", "\\bSystem\\b", "\\bRandom\\b",
            "\\bpackage\\b", "\\bprotected\\b", "\\bstatic \\{", "\\bwhile\\b", "\\bnew \\w+\\[\\]\\["};

    public static void main(String[] args) throws IOException {
        members();
        methods();
        text(Files.readString(Path.of("src/main/java/SwingCircuits.java")));
        CHECKS.finish("FaceTest");
    }

    private static void is(String what, boolean so) {
        CHECKS.due(what, so ? 1 : 0, 1);
    }

    private static void members() {
        Class<?> face = SwingCircuits.class;
        is("public and final", Modifier.isPublic(face.getModifiers()) && Modifier.isFinal(face.getModifiers()));
        for (Field f : face.getDeclaredFields()) {
            boolean constant = f.getName().equals("NONE");
            is(f + " is private or the constant", constant != Modifier.isPrivate(f.getModifiers()));
            is(f + " is static only if final", !Modifier.isStatic(f.getModifiers()) || Modifier.isFinal(f.getModifiers()));
        }
        for (Constructor<?> c : face.getDeclaredConstructors()) {
            is(c + " is the public one", Modifier.isPublic(c.getModifiers()) && c.getParameterCount() == 0);
        }
        for (Class<?> inside : face.getDeclaredClasses()) {
            is(inside + " is static", Modifier.isStatic(inside.getModifiers()));
            is(inside + " is not public", !Modifier.isPublic(inside.getModifiers()));
        }
    }

    private static String told(Method m) {
        StringBuilder text = new StringBuilder(m.getReturnType() + " " + m.getName() + "(");
        for (Class<?> c : m.getParameterTypes()) {
            text.append(text.charAt(text.length() - 1) == '(' ? "" : ", ").append(c);
        }
        return text.append(")").toString();
    }

    private static void methods() {
        Set<String> found = new TreeSet<>();
        Set<String> names = new TreeSet<>();
        for (Method m : SwingCircuits.class.getDeclaredMethods()) {
            if (Modifier.isPublic(m.getModifiers())) {
                found.add(told(m));
                names.add(m.getName());
                is(m + " is no static one", !Modifier.isStatic(m.getModifiers()));
            }
        }
        is("the public methods are the document's: " + found, found.equals(METHODS));
        for (Method m : SwingCircuits.class.getDeclaredMethods()) {
            if (!Modifier.isPublic(m.getModifiers())) {
                is(m + " is private", Modifier.isPrivate(m.getModifiers()));
                is(m + " has a name of its own", !names.contains(m.getName()));
            }
            is(m + " takes at most seven", m.getParameterCount() <= 7);
        }
    }

    private static void text(String source) {
        String code = source.replaceAll("(?s)/\\*.*?\\*/", "").replaceAll("//[^\n]*", "");
        for (String pattern : LEFT_OUT) {
            is("no " + pattern, !Pattern.compile(pattern).matcher(code).find());
        }
        is("one import", code.split("\\bimport\\b", -1).length == 2);
        is("no sign above 126", source.chars().allMatch(c -> c < 127));
    }
}

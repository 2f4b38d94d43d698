import java.io.IOException;
import java.lang.reflect.Constructor;
import java.lang.reflect.Field;
import java.lang.reflect.Member;
import java.lang.reflect.Method;
import java.lang.reflect.Modifier;
import java.nio.file.Files;
import java.nio.file.Path;
import java.util.ArrayList;
import java.util.List;
import java.util.Set;
import java.util.TreeSet;
import java.util.regex.Matcher;
import java.util.regex.Pattern;

/** The public face as the document prints it, and the rules of LANGUAGE.md that a look at the source can tell. */
final class FaceTest {
    private static final String[] FACE = {
        "int city(int,int,int,int)", "int ofHouse(int,int)", "int endow(int,int,int)", "int hide(int,int)",
        "int answer(int,int,int)", "int choice(int,int,int)", "int year(int,int,int,int,int,int)",
        "int name(int,int)", "int safe(int,int)", "int reading(int,int,int)", "int back(int)", "int lands(int)",
        "int coins(int)", "int kinds(int)", "long odds(int,int)", "int sheet(int,int,int)", "int lose(int)",
        "int put(int,int,int)", "long cell(int,int,int)", "int copy(int,int,int,int,int)", "int tell(int)",
        "int seal(int)", "int as(int,int)", "int trace()", "int fault()", "int many(int)"};

    public static void main(String[] args) throws IOException {
        constants();
        members();
        privateNames();
        source();
        Due.end();
    }

    private static void constants() {
        Due.due("UNKNOWN", RicherChange.UNKNOWN, -1);
        Due.due("OUTSIDE", RicherChange.OUTSIDE, -2);
        Due.due("STATE", RicherChange.STATE, -3);
        Due.due("FULL", RicherChange.FULL, -4);
        Due.due("NONE", RicherChange.NONE, -9);
        Due.due("LOST", RicherChange.LOST, Long.MIN_VALUE);
    }

    private static void members() {
        Set<String> methods = new TreeSet<>();
        for (Method m : RicherChange.class.getDeclaredMethods()) {
            if (!isPrivate(m)) {
                methods.add(told(m));
                Due.due(told(m) + " is public and no more", m.getModifiers(), Modifier.PUBLIC);
            }
        }
        Due.due("the methods are those of the document: " + methods, methods.equals(Set.of(FACE)) ? 1 : 0, 1);
        Constructor<?>[] made = RicherChange.class.getDeclaredConstructors();
        Due.due("one constructor", made.length, 1);
        Due.due("without parameters", made[0].getParameterCount(), 0);
        Due.due("public", made[0].getModifiers(), Modifier.PUBLIC);
        Set<String> fields = new TreeSet<>();
        for (Field f : RicherChange.class.getDeclaredFields()) {
            if (!isPrivate(f)) {
                fields.add(f.getName());
            }
        }
        Set<String> want = Set.of("UNKNOWN", "OUTSIDE", "STATE", "FULL", "NONE", "LOST");
        Due.due("the constants are those of the document: " + fields, fields.equals(want) ? 1 : 0, 1);
        Due.due("the class", RicherChange.class.getModifiers(), Modifier.PUBLIC | Modifier.FINAL);
    }

    private static boolean isPrivate(Member m) {
        return Modifier.isPrivate(m.getModifiers());
    }

    private static String told(Method m) {
        List<String> types = new ArrayList<>();
        for (Class<?> type : m.getParameterTypes()) {
            types.add(type.getName());
        }
        return m.getReturnType().getName() + " " + m.getName() + "(" + String.join(",", types) + ")";
    }

    private static void privateNames() {
        Set<String> publicNames = new TreeSet<>();
        for (String m : FACE) {
            publicNames.add(m.substring(m.indexOf(' ') + 1, m.indexOf('(')));
        }
        List<Class<?>> classes = new ArrayList<>(List.of(RicherChange.class.getDeclaredClasses()));
        Due.due("some twelve classes at most", classes.size() <= 12 ? 1 : 0, 1);
        for (Class<?> inside : classes) {
            Due.due(inside + " is static", inside.getModifiers() & Modifier.STATIC, Modifier.STATIC);
        }
        classes.add(RicherChange.class);
        for (Class<?> c : classes) {
            for (Method m : c.getDeclaredMethods()) {
                boolean isOfFace = c == RicherChange.class && !isPrivate(m);
                Due.due(c + "." + m.getName(), !isOfFace && publicNames.contains(m.getName()) ? 1 : 0, 0);
                Due.due(m.getName() + " has seven parameters at most", m.getParameterCount() <= 7 ? 1 : 0, 1);
            }
        }
    }

    private static void source() throws IOException {
        String code = Files.readString(Path.of("src/main/java/RicherChange.java"))
            .replaceAll("(?s)/\\*.*?\\*/", "").replaceAll("//[^\n]*", "");
        String[] ruledOut = {"\\b(throw|throws|try|catch|finally|synchronized|assert|package|import)\\b", "->", "::",
            "\\w+Exact\\b", "\\b(Object|var|Random|Thread|Runtime|hashCode|toString|equals)\\b",
            "\\bSystem\\.(?!arraycopy)"};
        for (String pattern : ruledOut) {
            Matcher found = Pattern.compile(pattern).matcher(code);
            Due.due("in the source: " + pattern + (found.find() ? " as " + found.group() : ""),
                found.reset().find() ? 1 : 0, 0);
        }
    }
}

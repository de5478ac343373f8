import java.lang.reflect.Constructor;
import java.lang.reflect.Executable;
import java.lang.reflect.Field;
import java.lang.reflect.Method;
import java.lang.reflect.Modifier;
import java.util.ArrayList;
import java.util.List;
import java.util.TreeSet;

/** The class has just the face of the document's code block, and the shape that LANGUAGE.md leaves. */
public final class FaceTest {
    private static final String[] FACE = {
        "int NONE",
        "BeanLoom()",
        "int enumeration(long, int) IllegalArgumentException IllegalStateException",
        "int bean() IllegalStateException",
        "int property(int, int, int) IllegalArgumentException IllegalStateException",
        "int list(int) IllegalArgumentException IllegalStateException",
        "int method(int, int) IllegalArgumentException IllegalStateException",
        "int function(int, int, int, int) IllegalArgumentException IllegalStateException",
        "void rule(int, int, int, long) IllegalArgumentException IllegalStateException",
        "int build() IllegalArgumentException IllegalStateException",
        "int diagnosis(int)",
        "int make(int, long) IllegalArgumentException IllegalStateException",
        "boolean put(int, int, long)",
        "int map(int, int) IllegalArgumentException IllegalStateException UnsupportedOperationException",
        "long get(int, int) IndexOutOfBoundsException",
        "int about(int, int) IndexOutOfBoundsException",
        "int count(int)"};

    private static int wrong;

    private static void look(boolean good, String what) {
        if (!good) {
            wrong++;
            System.out.println(what);
        }
    }

    private static String told(Executable e, String start) {
        List<String> parts = new ArrayList<>();
        for (Class<?> type : e.getParameterTypes()) {
            parts.add(type.getSimpleName());
        }
        StringBuilder told = new StringBuilder(start + "(" + String.join(", ", parts) + ")");
        for (Class<?> type : e.getExceptionTypes()) {
            told.append(' ').append(type.getSimpleName());
        }
        return told.toString();
    }

    public static void main(String[] args) {
        Class<?> face = BeanLoom.class;
        look(Modifier.isPublic(face.getModifiers()) && Modifier.isFinal(face.getModifiers()), "not public and final");
        TreeSet<String> got = new TreeSet<>();
        TreeSet<String> names = new TreeSet<>();
        for (Field f : face.getDeclaredFields()) {
            if (!Modifier.isPrivate(f.getModifiers())) {
                look(Modifier.isStatic(f.getModifiers()) && Modifier.isFinal(f.getModifiers()), f + " is no constant");
                got.add(f.getType().getSimpleName() + " " + f.getName());
            }
        }
        for (Constructor<?> c : face.getDeclaredConstructors()) {
            if (!Modifier.isPrivate(c.getModifiers())) {
                got.add(told(c, "BeanLoom"));
            }
        }
        for (Method m : face.getDeclaredMethods()) {
            if (!Modifier.isPrivate(m.getModifiers())) {
                got.add(told(m, m.getReturnType().getSimpleName() + " " + m.getName()));
                names.add(m.getName());
            }
        }
        look(got.equals(new TreeSet<>(List.of(FACE))), "the face is " + got);
        int classes = 1;
        for (Class<?> inner : face.getDeclaredClasses()) {
            classes++;
            inside(inner, names);
        }
        for (Method m : face.getDeclaredMethods()) {
            look(!Modifier.isPrivate(m.getModifiers()) || !names.contains(m.getName()), m + " bears a public name");
        }
        look(classes <= 12, classes + " classes");
        System.out.println(got.size() + " members, " + classes + " classes, " + wrong + " wrong");
        if (wrong != 0) {
            System.exit(1);
        }
    }

    private static void inside(Class<?> inner, TreeSet<String> names) {
        look(Modifier.isStatic(inner.getModifiers()), inner + " is not static");
        look(!Modifier.isPublic(inner.getModifiers()) && !Modifier.isProtected(inner.getModifiers()), inner + " is seen");
        int fields = 0;
        for (Field f : inner.getDeclaredFields()) {
            boolean constant = Modifier.isStatic(f.getModifiers());
            look(!constant || Modifier.isFinal(f.getModifiers()), f + " is static, but not final");
            fields += constant ? 0 : 1;
        }
        look(fields <= 20, inner + " has " + fields + " fields");
        for (Method m : inner.getDeclaredMethods()) {
            look(!names.contains(m.getName()), m + " bears a name of the face");
            look(m.getParameterCount() <= 7, m + " has too many parameters");
        }
    }
}

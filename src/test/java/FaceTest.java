import java.lang.reflect.Constructor;
import java.lang.reflect.Field;
import java.lang.reflect.Method;
import java.lang.reflect.Modifier;
import java.util.Arrays;
import java.util.Set;
import java.util.TreeSet;

/** The public face: just the document's constant, constructor and methods, with their types and exceptions. */
public final class FaceTest {
    private static final Check check = new Check();

    public static void main(String[] args) {
        Class<?> c = BoardScript.class;
        check.due("public and final", Modifier.isPublic(c.getModifiers()) && Modifier.isFinal(c.getModifiers()), true);
        check.due("NONE", BoardScript.NONE, -1);
        methods(c);
        fields(c);
        constructors(c);
        classesInside(c);
        check.finish();
    }

    private static void methods(Class<?> c) {
        Set<String> due = new TreeSet<>(Arrays.asList(
            "boolean unit[int]",
            "int read[]",
            "int object[int]",
            "boolean field[int, int, long] IndexOutOfBoundsException",
            "int run[long] IllegalArgumentException",
            "long at[int, int] IndexOutOfBoundsException",
            "int query[int]",
            "int output[int] IndexOutOfBoundsException",
            "int error[int] IndexOutOfBoundsException",
            "int closed[int]",
            "boolean restored[]",
            "int added[int]",
            "long steps[]",
            "boolean failAt[int]",
            "int list[int]",
            "int line[]",
            "void clear[]"));
        Set<String> got = new TreeSet<>();
        for (Method m : c.getDeclaredMethods()) {
            if (!Modifier.isPrivate(m.getModifiers()) && !m.isSynthetic()) {
                StringBuilder s = new StringBuilder(m.getReturnType() + " " + m.getName() + Arrays.toString(m.getParameterTypes()));
                for (Class<?> e : m.getExceptionTypes()) {
                    s.append(' ').append(e.getSimpleName());
                }
                got.add(s.toString());
                check.due(m.getName() + " is public, of an object", m.getModifiers(), Modifier.PUBLIC);
            }
        }
        if (!got.equals(due)) {
            System.out.println("the face is " + got);
        }
        check.due("the methods", got.equals(due), true);
    }

    private static void fields(Class<?> c) {
        for (Field f : c.getDeclaredFields()) {
            boolean constant = f.getName().equals("NONE");
            int due = Modifier.STATIC | Modifier.FINAL | Modifier.PUBLIC;
            boolean fits = constant ? f.getModifiers() == due : Modifier.isPrivate(f.getModifiers());
            check.due("field " + f.getName(), fits || f.isSynthetic(), true);
        }
    }

    private static void constructors(Class<?> c) {
        Constructor<?>[] all = c.getDeclaredConstructors();
        check.due("constructors", all.length, 1);
        check.due("of no parameters", all[0].getParameterCount(), 0);
        check.due("public", all[0].getModifiers(), Modifier.PUBLIC);
    }

    private static void classesInside(Class<?> c) {
        Class<?>[] inside = c.getDeclaredClasses();
        check.due("at most twelve classes", inside.length <= 11, true);
        for (Class<?> k : inside) {
            int m = k.getModifiers();
            check.due(k.getName(), Modifier.isStatic(m) && !Modifier.isPublic(m) && !Modifier.isProtected(m), true);
            int ownFields = 0;
            for (Field f : k.getDeclaredFields()) {
                boolean shared = Modifier.isStatic(f.getModifiers());
                check.due("static " + f.getName() + " is final", !shared || Modifier.isFinal(f.getModifiers()), true);
                ownFields += shared ? 0 : 1;
            }
            check.due(k.getName() + " has few fields", ownFields <= 20, true);
            for (Method own : k.getDeclaredMethods()) {
                check.due(own.getName() + " takes at most seven", own.getParameterCount() <= 7, true);
            }
        }
    }
}

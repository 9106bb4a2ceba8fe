import java.lang.reflect.Constructor;
import java.lang.reflect.Executable;
import java.lang.reflect.Field;
import java.lang.reflect.Method;
import java.lang.reflect.Modifier;
import java.util.Arrays;
import java.util.Set;
import java.util.TreeSet;

/** The face is that of the document, and nothing else is seen from outside. */
public final class FaceTest {
    private static final String[] FACE = {
        "int ahead int int : IllegalArgumentException", "int best int : IllegalArgumentException",
        "int book int : IllegalArgumentException", "int coast int : IllegalArgumentException", "int count int :",
        "int doom int : NoSuchElementException", "int fault :", "int feed int int int int int :",
        "int fits int int : NoSuchElementException IllegalArgumentException",
        "int fleet int int : NoSuchElementException IllegalArgumentException",
        "int from int : IllegalArgumentException", "int given int int : NoSuchElementException",
        "int ground int int : NoSuchElementException IllegalArgumentException",
        "int hat int int : NoSuchElementException IllegalArgumentException",
        "int hatted int : NoSuchElementException", "int image :", "int law int : IllegalArgumentException",
        "int line int int : NoSuchElementException IllegalArgumentException",
        "int look int int : NoSuchElementException IllegalArgumentException",
        "int man int int : NoSuchElementException IllegalArgumentException",
        "int meets int int int : NoSuchElementException IllegalArgumentException", "int restore :",
        "int row int : NoSuchElementException", "int sea int : NoSuchElementException",
        "int season int int int int : IllegalArgumentException",
        "int share int int int : NoSuchElementException IllegalArgumentException",
        "int span int int int int int : IllegalArgumentException", "int status int :",
        "int suits int int int int : NoSuchElementException IllegalArgumentException",
        "int told int : IllegalArgumentException", "int two int int int : IllegalArgumentException", "int undo :",
        "int work int : IllegalArgumentException",
        "int would int int int int int int int int : IllegalArgumentException",
        "long squall int int int : IllegalArgumentException",
    };

    public static void main(String[] args) {
        Class<?> face = StormHats.class;
        Check.due("final", face.getModifiers(), Modifier.PUBLIC | Modifier.FINAL);
        Check.due("NONE", StormHats.NONE, -1);
        methods(face);
        fields(face);
        Constructor<?>[] made = face.getDeclaredConstructors();
        Check.due("constructors", made.length, 1);
        Check.due("a public one", made[0].getModifiers(), Modifier.PUBLIC);
        Check.due("without parameters", made[0].getParameterCount(), 0);
        inside(face);
        Check.end();
    }

    private static void methods(Class<?> face) {
        Set<String> seen = new TreeSet<>();
        Set<String> names = new TreeSet<>();
        for (Method m : face.getDeclaredMethods()) {
            if (!Modifier.isPrivate(m.getModifiers()) && !m.isSynthetic()) {
                seen.add(textOf(m));
                names.add(m.getName());
                Check.due("public " + m, m.getModifiers(), Modifier.PUBLIC);
            }
        }
        Check.due("the face is " + seen, seen.equals(new TreeSet<>(Arrays.asList(FACE))) ? 1 : 0, 1);
        for (Method m : face.getDeclaredMethods()) {
            if (Modifier.isPrivate(m.getModifiers())) {
                Check.due("a name of the face: " + m, names.contains(m.getName()) ? 1 : 0, 0);
            }
        }
        for (Class<?> c : face.getDeclaredClasses()) {
            for (Method m : c.getDeclaredMethods()) {
                Check.due("a name of the face: " + m, names.contains(m.getName()) ? 1 : 0, 0);
            }
        }
    }

    private static String textOf(Method m) {
        StringBuilder b = new StringBuilder();
        b.append(m.getReturnType().getSimpleName()).append(' ').append(m.getName());
        for (Class<?> p : m.getParameterTypes()) {
            b.append(' ').append(p.getSimpleName());
        }
        b.append(" :");
        for (Class<?> e : m.getExceptionTypes()) {
            b.append(' ').append(e.getSimpleName());
        }
        return b.toString();
    }

    private static void fields(Class<?> face) {
        for (Field f : face.getDeclaredFields()) {
            boolean none = f.getName().equals("NONE");
            Check.due("private " + f, Modifier.isPrivate(f.getModifiers()) ? 1 : 0, none ? 0 : 1);
        }
    }

    /** Rules 1, 5 and 11 of LANGUAGE.md, as far as they can be seen from here. */
    private static void inside(Class<?> face) {
        Check.due("classes", face.getDeclaredClasses().length <= 12 ? 1 : 0, 1);
        for (Class<?> c : face.getDeclaredClasses()) {
            Check.due("static " + c, Modifier.isStatic(c.getModifiers()) ? 1 : 0, 1);
            Check.due("hidden " + c, c.getModifiers() & (Modifier.PUBLIC | Modifier.PROTECTED), 0);
            count(c);
        }
        count(face);
    }

    private static void count(Class<?> c) {
        int own = 0;
        for (Field f : c.getDeclaredFields()) {
            boolean isStatic = Modifier.isStatic(f.getModifiers());
            own += isStatic ? 0 : 1;
            Check.due("final " + f, isStatic && !Modifier.isFinal(f.getModifiers()) ? 1 : 0, 0);
        }
        Check.due("fields of " + c, own <= 20 ? 1 : 0, 1);
        for (Executable e : c.getDeclaredMethods()) {
            Check.due("parameters of " + e, e.getParameterCount() <= 7 || e.getName().equals("would") ? 1 : 0, 1);
        }
    }
}

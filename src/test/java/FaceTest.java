import java.lang.reflect.Constructor;
import java.lang.reflect.Field;
import java.lang.reflect.Method;
import java.lang.reflect.Modifier;
import java.util.Arrays;
import java.util.Set;
import java.util.TreeSet;

/** The public face: these members, and no other that can be seen. */
public final class FaceTest {
    private static final Set<String> METHODS = new TreeSet<>(Arrays.asList(
        "void reset()", "int put(int,int)", "int word(int)", "int set(int,int,int)", "int register(int,int)",
        "int control(int,int)", "int request(int)", "int step()", "int run(int)", "int look(int)"));

    public static void main(String[] args) {
        Check.due("NONE", WindowCore.NONE, -1);
        Check.holds("public final class", (WindowCore.class.getModifiers() & (Modifier.PUBLIC | Modifier.FINAL))
            == (Modifier.PUBLIC | Modifier.FINAL));
        methods();
        fields();
        Constructor<?>[] constructors = WindowCore.class.getDeclaredConstructors();
        Check.due("constructors", constructors.length, 1);
        Check.holds("a public constructor", Modifier.isPublic(constructors[0].getModifiers()));
        Check.due("its parameters", constructors[0].getParameterCount(), 0);
        Check.end();
    }

    private static void methods() {
        Set<String> shown = new TreeSet<>();
        Set<String> names = new TreeSet<>();
        for (Method m : WindowCore.class.getDeclaredMethods()) {
            if (!Modifier.isPrivate(m.getModifiers())) {
                shown.add(textOf(m));
                names.add(m.getName());
                Check.holds(m + " is public and of an object", m.getModifiers() == Modifier.PUBLIC);
            }
        }
        Check.holds("methods are " + shown, shown.equals(METHODS));
        for (Method m : WindowCore.class.getDeclaredMethods()) {
            if (Modifier.isPrivate(m.getModifiers())) {
                Check.holds("private " + m.getName() + " has a name of its own", !names.contains(m.getName()));
            }
        }
    }

    private static String textOf(Method m) {
        StringBuilder text = new StringBuilder(m.getReturnType().getName() + " " + m.getName() + "(");
        for (Class<?> parameter : m.getParameterTypes()) {
            text.append(text.charAt(text.length() - 1) == '(' ? "" : ",").append(parameter.getName());
        }
        return text.append(")").toString();
    }

    private static void fields() {
        for (Field f : WindowCore.class.getDeclaredFields()) {
            boolean isNone = f.getName().equals("NONE");
            Check.holds(f + " is private, but NONE", Modifier.isPrivate(f.getModifiers()) != isNone);
            Check.holds(f + " is final if static",
                !Modifier.isStatic(f.getModifiers()) || Modifier.isFinal(f.getModifiers()));
        }
    }
}

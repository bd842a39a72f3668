import java.lang.reflect.Constructor;
import java.lang.reflect.Field;
import java.lang.reflect.Method;
import java.lang.reflect.Modifier;
import java.util.Arrays;
import java.util.Set;
import java.util.TreeSet;

/** The public face of the class is the document's, with nothing more and nothing less. */
public final class FaceTest {
    private static final String ARGUMENT = "IllegalArgumentException";
    private static final String STATE = "IllegalStateException";
    private static final String INDEX = "IndexOutOfBoundsException";
    private static final Check CHECK = new Check();

    public static void main(String[] args) {
        int modifiers = LanternWalk.class.getModifiers();
        CHECK.due("public and final", modifiers, Modifier.PUBLIC | Modifier.FINAL);
        methods();
        constructors();
        fields();
        CHECK.end();
    }

    private static void methods() {
        String[] want = {
            "int addStretch(int, int) " + ARGUMENT + " " + STATE,
            "int post(int, int) " + INDEX,
            "int setWind(int, int) " + INDEX + " " + ARGUMENT,
            "int come(int, int, int) " + ARGUMENT + " " + STATE,
            "int trim(int, int) " + INDEX + " " + ARGUMENT + " " + STATE,
            "int addSong(int) " + ARGUMENT + " " + STATE,
            "int teach(int, int, int) " + INDEX + " " + ARGUMENT,
            "int stretch(int, int) " + INDEX,
            "int walker(int, int) " + INDEX,
            "int knows(int, int) " + INDEX,
            "int song(int, int) " + INDEX,
            "int pass(int) " + ARGUMENT + " " + STATE,
            "int count(int) " + INDEX,
            "int foresee(int, int) " + ARGUMENT + " " + INDEX + " " + STATE,
            "int home(int) " + INDEX,
            "int hears(int, int) " + INDEX,
            "int advise(int, int) " + INDEX + " " + ARGUMENT + " " + STATE,
            "double light()",
            "long digest()",
        };
        Set<String> there = new TreeSet<>();
        Set<String> publicNames = new TreeSet<>();
        for (Method m : LanternWalk.class.getDeclaredMethods()) {
            if (!Modifier.isPrivate(m.getModifiers())) {
                CHECK.due(m.getName() + " is public alone", m.getModifiers(), Modifier.PUBLIC);
                there.add(told(m));
                publicNames.add(m.getName());
            }
        }
        CHECK.due("the methods", there, new TreeSet<>(Arrays.asList(want)));
        for (Class<?> c : classes()) {
            for (Method m : c.getDeclaredMethods()) {
                boolean isFace = c == LanternWalk.class && Modifier.isPublic(m.getModifiers());
                CHECK.due(c + " has a " + m.getName() + " of a public name", !isFace
                        && publicNames.contains(m.getName()), false);
            }
        }
    }

    private static String told(Method m) {
        StringBuilder told = new StringBuilder();
        told.append(m.getReturnType()).append(' ').append(m.getName()).append('(');
        for (int i = 0; i < m.getParameterCount(); i++) {
            told.append(i == 0 ? "" : ", ").append(m.getParameterTypes()[i]);
        }
        told.append(')');
        for (Class<?> e : m.getExceptionTypes()) {
            told.append(' ').append(e.getSimpleName());
        }
        return told.toString();
    }

    private static void constructors() {
        Constructor<?>[] there = LanternWalk.class.getDeclaredConstructors();
        CHECK.due("the constructors", there.length, 1);
        CHECK.due("a public one", there[0].getModifiers(), Modifier.PUBLIC);
        CHECK.due("its parameters", there[0].getParameterCount(), 0);
    }

    private static void fields() {
        for (Class<?> c : classes()) {
            for (Field f : c.getDeclaredFields()) {
                int m = f.getModifiers();
                CHECK.due(f + " is static and not final", Modifier.isStatic(m) && !Modifier.isFinal(m), false);
                CHECK.due(f + " is of the face", c == LanternWalk.class && !Modifier.isPrivate(m), false);
            }
        }
        for (Class<?> c : LanternWalk.class.getDeclaredClasses()) {
            int m = c.getModifiers();
            CHECK.due(c + " is public or protected", Modifier.isPublic(m) || Modifier.isProtected(m), false);
            CHECK.due(c + " is static", Modifier.isStatic(m), true);
        }
    }

    private static Set<Class<?>> classes() {
        Set<Class<?>> all = new java.util.LinkedHashSet<>();
        all.add(LanternWalk.class);
        all.addAll(Arrays.asList(LanternWalk.class.getDeclaredClasses()));
        return all;
    }
}

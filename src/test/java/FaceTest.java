import java.lang.reflect.Constructor;
import java.lang.reflect.Field;
import java.lang.reflect.Method;
import java.lang.reflect.Modifier;
import java.util.Set;
import java.util.TreeSet;

/** "The public face", type by type: what stands in the document's block is there, and nothing else is open. */
public final class FaceTest {
    private static final String[] CALLS = {
        "int town(int, int)", "int office(int, int, int)", "int die(int, int, int, int, int)",
        "int mark(int, int, int, int, int, int, int, int)", "int lean(int, int)", "int about(int, int)", "int span(int, int)",
        "int can(int, int)", "int marks(int, int)", "int sail(int, int, int, int)", "int late(int, int)", "int road(int, int, int)",
        "int soonest(int, int, int)", "int goes(int, int, int)", "int when(int, int, int, int)", "int bars(int, int)",
        "int fewest(int, int, int)", "int type(long, int)", "int clear()", "int rates()", "int owed(int, int, int, int, int)",
        "int weights(int, int, int, int, int)", "int mail(int, int, int)", "int heap(int, int)", "int many(int, int)",
        "int look(int, int)", "int count(int)", "long trace()"};
    private static final Due due = new Due();

    public static void main(String[] args) throws IllegalAccessException {
        theClass();
        theConstructor();
        theCalls();
        theConstants();
        due.end();
    }

    private static void yes(String told, boolean holds) {
        due.is(told + " (1: so it is): it", holds ? 1 : 0, 1);
    }

    private static void theClass() {
        Class<?> face = CoverMarks.class;
        yes("public final class", Modifier.isPublic(face.getModifiers()) && Modifier.isFinal(face.getModifiers()));
        yes("without a package", face.getPackageName().isEmpty());
        yes("over no class of its own", face.getSuperclass() == Object.class && face.getInterfaces().length == 0);
        yes("not generic", face.getTypeParameters().length == 0);
        for (Class<?> inside : face.getDeclaredClasses()) {
            int open = inside.getModifiers() & (Modifier.PUBLIC | Modifier.PROTECTED);
            yes("not open: " + inside.getName(), open == 0);
        }
    }

    private static void theConstructor() {
        Constructor<?>[] made = CoverMarks.class.getDeclaredConstructors();
        due.is("constructors", made.length, 1);
        yes("the constructor is public", Modifier.isPublic(made[0].getModifiers()));
        due.is("numbers that it takes", made[0].getParameterCount(), 0);
        due.is("what it throws", made[0].getExceptionTypes().length, 0);
    }

    private static void theCalls() {
        Set<String> open = new TreeSet<>();
        for (Method m : CoverMarks.class.getDeclaredMethods()) {
            if (Modifier.isPrivate(m.getModifiers())) {
                continue;
            }
            open.add(told(m));
            yes("public: " + told(m), Modifier.isPublic(m.getModifiers()));
            yes("of an object: " + told(m), !Modifier.isStatic(m.getModifiers()));
            due.is("what it throws: " + told(m), m.getExceptionTypes().length, 0);
        }
        for (String call : CALLS) {
            yes("there is " + call, open.contains(call));
        }
        due.is("calls that are open", open.size(), CALLS.length);
    }

    private static String told(Method m) {
        StringBuilder text = new StringBuilder(m.getReturnType().getName()).append(' ').append(m.getName()).append('(');
        for (int i = 0; i < m.getParameterCount(); i++) {
            text.append(i == 0 ? "" : ", ").append(m.getParameterTypes()[i].getName());
        }
        return text.append(')').toString();
    }

    /** "public static final int BAD = -1, STATE = -2, FULL = -3, NONE = -9" */
    private static void theConstants() throws IllegalAccessException {
        String[] names = {"BAD", "STATE", "FULL", "NONE"};
        int[] values = {-1, -2, -3, -9};
        int open = 0;
        for (Field f : CoverMarks.class.getDeclaredFields()) {
            if (Modifier.isPrivate(f.getModifiers())) {
                continue;
            }
            open++;
            int constant = Modifier.PUBLIC | Modifier.STATIC | Modifier.FINAL;
            yes("a public constant: " + f.getName(), f.getModifiers() == constant && f.getType() == int.class);
            for (int i = 0; i < names.length; i++) {
                if (names[i].equals(f.getName())) {
                    due.is(names[i], f.getInt(null), values[i]);
                }
            }
        }
        due.is("constants that are open", open, names.length);
    }
}

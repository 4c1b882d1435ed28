import java.lang.reflect.InvocationTargetException;
import java.lang.reflect.Method;
import java.lang.reflect.Modifier;
import java.util.ArrayList;
import java.util.Comparator;
import java.util.List;
import java.util.Random;

/** Any numbers for any call in any state: nothing is thrown, and the answers are those of the plain second writing. */
public final class WildRunTest {
    private static final int[] NUMBERS = {0, 0, 0, 1, 1, 2, 3, 4, 5, 6, 7, 8, 9, 10, 11, 12, 15, 16, 19, 20, 30, 31, 39, 40, 63, 64, 99, 500, 999, 999, 1000,
        1023, 1024, 2000, 2001, 2000000, 2000001, 0x3F3F3F, 0x303F3F, 0x3F3F35, 0x1000000, -1, -2, -3, -9, -9, -9, -10, Integer.MAX_VALUE, Integer.MIN_VALUE};

    public static void main(String[] args) throws IllegalAccessException, NoSuchMethodException {
        Due due = new Due();
        List<Method> face = new ArrayList<>();
        for (Method m : CoverMarks.class.getDeclaredMethods()) {
            if (Modifier.isPublic(m.getModifiers())) {
                face.add(m);
            }
        }
        face.sort(Comparator.comparing(Method::getName));
        due.is("calls of the face", face.size(), 28);
        for (int seed = 0; seed < 100; seed++) {
            run(due, face, new Random(seed), seed);
        }
        due.end();
    }

    private static void run(Due due, List<Method> face, Random dice, int seed) throws IllegalAccessException, NoSuchMethodException {
        CoverMarks x = new CoverMarks();
        PlainCoverMarks y = new PlainCoverMarks();
        x.office(0, 0, 999);
        y.office(0, 0, 999);
        for (int i = 0; i < 511; i++) {
            Method m = face.get(dice.nextInt(face.size()));
            Object[] numbers = new Object[m.getParameterCount()];
            StringBuilder call = new StringBuilder("seed ").append(seed).append(' ').append(m.getName());
            for (int k = 0; k < numbers.length; k++) {
                boolean isLong = m.getParameterTypes()[k] == long.class;
                int n = NUMBERS[dice.nextInt(NUMBERS.length)];
                numbers[k] = isLong ? (Object) dice.nextLong() : (Object) n;
                call.append(' ').append(numbers[k]);
            }
            Method plain = PlainCoverMarks.class.getDeclaredMethod(m.getName(), m.getParameterTypes());
            due.is(call.toString(), answer(m, x, numbers), answer(plain, y, numbers));
        }
    }

    private static long answer(Method m, Object of, Object[] numbers) throws IllegalAccessException {
        try {
            return ((Number) m.invoke(of, numbers)).longValue();
        } catch (InvocationTargetException e) {
            System.out.println(m.getName() + " threw " + e.getCause());
            return Long.MIN_VALUE + of.getClass().getName().length();
        }
    }
}

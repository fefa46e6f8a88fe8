import java.lang.reflect.InvocationTargetException;
import java.lang.reflect.Method;
import java.lang.reflect.Modifier;
import java.util.ArrayList;
import java.util.Arrays;
import java.util.Comparator;
import java.util.List;

/**
 * Calls with any arguments in any state, behind the 512th too, throw the exceptions of their throws clause
 * alone, and by a throw statement of the class (rule 7 of LANGUAGE.md). The answers are not looked at.
 */
public final class AnyCallsTest {
    private static final int RUNS = 60;
    private static final int CALLS = 2000;
    private static final int[] ODD = {
        Integer.MIN_VALUE, -2, -1, 12, 13, 17, 18, 29, 30, 31, 32, 60, 61, 63, 64, 100, 255, 256, 3000, 10000,
        10001, Integer.MAX_VALUE,
    };
    private static final long[] SETS = {
        Long.MIN_VALUE, -1, 0, 1, 1L << 29, (1L << 30) - 1, 1L << 30, 1L << 32, Long.MAX_VALUE,
    };

    private static long seed = 1;

    public static void main(String[] args) throws IllegalAccessException {
        List<Method> face = face();
        int answered = 0;
        for (int run = 0; run < RUNS; run++) {
            CampBook book = new CampBook();
            for (int i = 0; i < CALLS; i++) {
                Method method = face.get(below(face.size()));
                // Days end seldom, so that much happens on each.
                if (!method.getName().equals("end") || below(6) == 0) {
                    answered += isAnswered(book, method, arguments(method)) ? 1 : 0;
                }
            }
        }
        Check.same("many calls are answered", answered > RUNS * CALLS / 3, true);
        Check.end();
    }

    private static List<Method> face() {
        List<Method> face = new ArrayList<>();
        for (Method method : CampBook.class.getDeclaredMethods()) {
            if (Modifier.isPublic(method.getModifiers())) {
                face.add(method);
            }
        }
        // The order that the machine tells them in is free.
        face.sort(Comparator.comparing(Method::getName));
        return face;
    }

    private static int below(int bound) {
        seed = seed * 6364136223846793005L + 1442695040888963407L;
        return (int) ((seed >>> 33) % bound);
    }

    private static Object[] arguments(Method method) {
        Class<?>[] types = method.getParameterTypes();
        Object[] arguments = new Object[types.length];
        for (int i = 0; i < types.length; i++) {
            if (types[i] == long.class) {
                arguments[i] = below(2) == 0 ? SETS[below(SETS.length)] : (long) below(1 << 12);
            } else if (types[i] == boolean.class) {
                arguments[i] = below(2) == 0;
            } else {
                arguments[i] = below(4) == 0 ? ODD[below(ODD.length)] : below(12);
            }
        }
        return arguments;
    }

    private static boolean isAnswered(CampBook book, Method method, Object[] arguments)
            throws IllegalAccessException {
        try {
            method.invoke(book, arguments);
            return true;
        } catch (InvocationTargetException e) {
            Throwable thrown = e.getCause();
            String what = method.getName() + Arrays.toString(arguments) + " throws " + thrown;
            // The exceptions that the machine makes are of other classes, or come from inside the library.
            Check.same(what + ", which its throws clause has",
                    Arrays.asList(method.getExceptionTypes()).contains(thrown.getClass()), true);
            Check.same(what + ", which CampBook throws",
                    thrown.getStackTrace()[0].getClassName().startsWith("CampBook"), true);
            return false;
        }
    }
}

import java.lang.reflect.InvocationTargetException;
import java.lang.reflect.Method;
import java.lang.reflect.Modifier;
import java.util.ArrayList;
import java.util.Comparator;
import java.util.List;
import java.util.Random;

/**
 * The paragraph 'Exceptions' of the document, for every method of the face at once: called with numbers and chars of
 * all sizes, it throws nothing but what the document names for it, and then nothing is another one.
 */
final class FaceEdges {
    private static final int[] NUMBERS = {Edge.LEAST_INT, Edge.LEAST_INT + 1, -65536, -1001, -401, -101, -2, -1, 0, 1,
        2, 3, 4, 6, 7, 8, 16, 20, 32, 101, 401, 1001, 65536, Edge.MOST_INT - 1, Edge.MOST_INT};
    private static final char[] CHARS = {0, ' ', '+', 'o', 'x', 's', 'k', 'h', 'a', 'n', 'z', '{', 'A', 'd', 'p', 256,
        'k' + 256, 65535};
    private static final int ROUNDS = 20;
    private static final int CALLS = 60;

    private FaceEdges() {
    }

    static void run() {
        Edge.holds("Exceptions", "A method that throws an exception changes nothing.");
        List<Method> methods = new ArrayList<>(List.of(MotionRig.class.getDeclaredMethods()));
        methods.removeIf(m -> !Modifier.isPublic(m.getModifiers()));
        methods.sort(Comparator.comparing(Method::getName));
        Edge.is("the methods of the face", 43, methods.size());
        List<String> untouched = Looks.of(House.furnished());
        for (Method method : methods) {
            Random random = new Random(method.getName().hashCode());
            int refused = 0;
            for (int round = 0; round < ROUNDS && method.getParameterCount() > 0; round++) {
                refused += refusals(method, random, untouched);
            }
            boolean isRefusing = method.getExceptionTypes().length > 0 && method.getParameterCount() > 0;
            Edge.is(method.getName() + " refuses something", isRefusing, refused > 0);
        }
    }

    /** Calls on one rig up to the first one that is not refused; how many were. */
    private static int refusals(Method method, Random random, List<String> untouched) {
        MotionRig rig = House.furnished();
        for (int i = 0; i < CALLS; i++) {
            Object[] arguments = new Object[method.getParameterCount()];
            for (int j = 0; j < arguments.length; j++) {
                arguments[j] = argument(method.getParameterTypes()[j], random);
            }
            Class<?> thrown = thrown(method, rig, arguments);
            if (thrown == null) {
                return i;
            }
            String call = method.getName() + List.of(arguments);
            Edge.is(call + " throws what is told", true, List.of(method.getExceptionTypes()).contains(thrown));
        }
        Edge.is(method.getName() + " and nothing is another one", untouched, Looks.of(rig));
        return CALLS;
    }

    private static Object argument(Class<?> type, Random random) {
        if (type == boolean.class) {
            return random.nextBoolean();
        }
        if (type == char.class) {
            return CHARS[random.nextInt(CHARS.length)];
        }
        return NUMBERS[random.nextInt(NUMBERS.length)];
    }

    private static Class<?> thrown(Method method, MotionRig rig, Object[] arguments) {
        try {
            method.invoke(rig, arguments);
            return null;
        } catch (InvocationTargetException e) {
            return e.getCause().getClass();
        } catch (IllegalAccessException e) {
            return e.getClass();
        }
    }
}

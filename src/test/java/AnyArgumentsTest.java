import java.lang.reflect.InvocationTargetException;
import java.lang.reflect.Method;
import java.lang.reflect.Modifier;
import java.util.ArrayList;
import java.util.Comparator;
import java.util.List;
import java.util.Random;

/** LANGUAGE.md, 7: no call throws, whatever its arguments and whatever was called before it. */
public final class AnyArgumentsTest {
    private static final int OBJECTS = 400;
    private static final int CALLS = 512;
    private static final int[] EDGES = {Integer.MIN_VALUE, Integer.MIN_VALUE + 1, -1001, -1000, -2, -1,
        5, 6, 9, 10, 11, 12, 13, 31, 32, 1000, 1001, 1 << 27, 1 << 30, Integer.MAX_VALUE - 1,
        Integer.MAX_VALUE};

    private static final Due DUE = new Due("AnyArgumentsTest");

    private AnyArgumentsTest() {
    }

    public static void main(String[] args) throws IllegalAccessException {
        List<Method> methods = new ArrayList<>();
        for (Method method : LatticeBench.class.getDeclaredMethods()) {
            if (Modifier.isPublic(method.getModifiers())) {
                methods.add(method);
            }
        }
        methods.sort(Comparator.comparing(Method::getName));
        DUE.same("public methods", methods.size(), 28);
        for (int object = 0; object < OBJECTS; object++) {
            use(new LatticeBench(), methods, new Random(object), object % 8);
        }
        DUE.end();
    }

    /** The wilder, the more arguments are edges; without any, most calls find what they ask for. */
    private static void use(LatticeBench x, List<Method> methods, Random random, int wildness)
            throws IllegalAccessException {
        for (int call = 0; call < CALLS; call++) {
            Method method = methods.get(random.nextInt(methods.size()));
            boolean begins = call < 12 && wildness < 6;
            StringBuilder words = new StringBuilder(begins ? "table" : method.getName());
            try {
                if (begins) {
                    x.table(call, 1 + random.nextInt(5), 1 + call % 5);
                } else {
                    method.invoke(x, draw(method, random, wildness, words));
                }
                DUE.yes("any call", true);
            } catch (InvocationTargetException thrown) {
                DUE.same("call " + call + ", " + words, thrown.getCause(), "no exception");
            }
        }
    }

    private static Object[] draw(Method method, Random random, int wildness, StringBuilder words) {
        Object[] arguments = new Object[method.getParameterCount()];
        for (int k = 0; k < arguments.length; k++) {
            if (method.getParameterTypes()[k] == boolean.class) {
                arguments[k] = random.nextBoolean();
            } else if (random.nextInt(20) < wildness) {
                arguments[k] = EDGES[random.nextInt(EDGES.length)];
            } else if (method.getName().equals("leaf") && k > 1) {
                arguments[k] = random.nextInt(2001) - 1000;
            } else {
                arguments[k] = random.nextInt(k == 0 ? 12 : 5);
            }
            words.append(' ').append(arguments[k]);
        }
        return arguments;
    }
}

import java.lang.reflect.InvocationTargetException;
import java.lang.reflect.Method;
import java.lang.reflect.Modifier;
import java.util.ArrayList;
import java.util.Arrays;
import java.util.Comparator;
import java.util.List;

/**
 * All promises: runs of drawn calls. A call throws only what the face lists, a call that throws
 * changes nothing (a club that is spared those calls stands as the other), and isTrue holds.
 */
public final class RandomCallsTest {
    private static final int[] EDGES = {Integer.MIN_VALUE, Integer.MAX_VALUE, -1, 0, 1, 5, 6, 8, 16,
        50, 51, 60, 90, 91, 99, 100, 255, 256, 300, 600, 601, 1800, 1801, 65535, 65536};
    private static final String KINDS = "ldwjix";

    private final List<Method> methods = new ArrayList<>();
    private long number = 987654321;

    public static void main(String[] args) throws IllegalAccessException {
        RandomCallsTest test = new RandomCallsTest();
        for (Method method : TightFive.class.getDeclaredMethods()) {
            if (Modifier.isPublic(method.getModifiers())) {
                test.methods.add(method);
            }
        }
        test.methods.sort(Comparator.comparing(Method::getName));
        for (int i = 0; i < 300; i++) {
            test.run(i);
        }
        Check.finish("RandomCallsTest");
    }

    // The same numbers in each run, so that a failure can be seen again.
    private int draw(int most) {
        number = number * 6364136223846793005L + 1442695040888963407L;
        return (int) ((number >>> 33) % (most + 1));
    }

    private void run(int which) throws IllegalAccessException {
        TightFive club = which % 3 == 0 ? new TightFive() : Clubs.heckled();
        TightFive spared = which % 3 == 0 ? new TightFive() : Clubs.heckled();
        for (int i = 0; i < 120; i++) {
            Method method = methods.get(draw(methods.size() - 1));
            Object[] arguments = drawArguments(method);
            String call = "run " + which + ", " + method.getName() + Arrays.toString(arguments);
            try {
                Object answer = method.invoke(club, arguments);
                Check.is(call, answer, method.invoke(spared, arguments));
            } catch (InvocationTargetException e) {
                Check.is(call + " lists " + e.getCause(), lists(method, e.getCause()), true);
                Check.is(call + " itself throws", Check.isOwn(e.getCause()), true);
            }
        }
        Check.is("run " + which + " is true", club.isTrue(), true);
        Check.is("run " + which + " behind it", Check.stateOf(club), Check.stateOf(spared));
    }

    private Object[] drawArguments(Method method) {
        Object[] arguments = new Object[method.getParameterCount()];
        boolean wild = draw(9) == 0;
        for (int i = 0; i < arguments.length; i++) {
            if (method.getParameterTypes()[i] == char.class) {
                arguments[i] = KINDS.charAt(draw(KINDS.length() - 1));
            } else {
                arguments[i] = wild ? EDGES[draw(EDGES.length - 1)] : drawTame(method.getName(), i);
            }
        }
        return arguments;
    }

    private int drawTame(String method, int place) {
        boolean isLength = method.equals("book") && place == 2 || method.startsWith("best") && place == 0;
        boolean isPart = method.equals("joke") || method.equals("callback") || method.equals("tag");
        return isLength ? 60 + draw(100) : isPart && place > 0 ? 5 + draw(10) : draw(5);
    }

    private static boolean lists(Method method, Throwable thrown) {
        return Arrays.asList(method.getExceptionTypes()).contains(thrown.getClass());
    }
}

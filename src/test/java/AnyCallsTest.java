import java.lang.reflect.InvocationTargetException;
import java.lang.reflect.Method;
import java.lang.reflect.Modifier;
import java.util.ArrayList;
import java.util.Comparator;
import java.util.List;
import java.util.Random;

/** Calls with any arguments: nothing is thrown, and the same calls on a second object answer the same. */
public final class AnyCallsTest {
    private static final int[] ENDS = {Integer.MIN_VALUE, Integer.MIN_VALUE + 1, -10000, -102, -101, -2, -1, 0, 1, 2, 3, 4, 5,
        6, 7, 8, 9, 10, 11, 16, 24, 25, 32, 36, 40, 41, 50, 51, 59, 60, 61, 66, 67, 80, 99, 100, 101, 200, 201, 999, 1000, 9999,
        10000, 65535, Integer.MAX_VALUE - 1, Integer.MAX_VALUE};
    private static final Due due = new Due();

    public static void main(String[] args) throws IllegalAccessException {
        List<Method> calls = new ArrayList<>();
        for (Method method : ThreeMagnets.class.getDeclaredMethods()) {
            if (Modifier.isPublic(method.getModifiers())) {
                calls.add(method);
            }
        }
        calls.sort(Comparator.comparing(Method::getName));
        due.is("calls", calls.size(), 42);
        for (int run = 0; run < 600 && due.wrong() < 20; run++) {
            runOf(calls, new Random(run), run % 5);
        }
        dearest();
        due.end("AnyCallsTest");
    }

    /** The less wild, the more of the arguments are small. */
    private static int argument(Random random, int wild) {
        int way = random.nextInt(6);
        if (way < wild) {
            return way == 0 ? random.nextInt() : ENDS[random.nextInt(ENDS.length)];
        }
        return random.nextInt(way == 5 ? 60 : 7);
    }

    private static void runOf(List<Method> calls, Random random, int wild) throws IllegalAccessException {
        ThreeMagnets one = new ThreeMagnets();
        ThreeMagnets other = new ThreeMagnets();
        for (int k = 0; k < 512; k++) {
            Method call = calls.get(random.nextInt(calls.size()));
            Object[] with = new Object[call.getParameterCount()];
            StringBuilder told = new StringBuilder(call.getName());
            for (int p = 0; p < with.length; p++) {
                with[p] = call.getParameterTypes()[p] == long.class ? (Object) random.nextLong() : (Object) argument(random, wild);
                told.append(' ').append(with[p]);
            }
            try {
                int answer = (Integer) call.invoke(one, with);
                due.is(told.toString(), (Integer) call.invoke(other, with), answer);
            } catch (InvocationTargetException thrown) {
                due.isTrue(told + " threw " + thrown.getCause(), false);
            }
        }
    }

    /** The dearest calls there are, to see that they end soon. */
    private static void dearest() {
        ThreeMagnets x = new ThreeMagnets();
        for (int m = 0; m < 6; m++) {
            x.magnet(m, 15 * m - 40, 7 * m, 99);
        }
        x.rule(2, 80);
        x.rule(5, 2);
        x.rule(3, 0);
        String longest = "r+s+n*r+s+n*r+s+n*r+s+n*r+s+n*r+s+n*r+s+n*r+s+n*r+s+n*r+s*n";
        due.is("sixty", longest.length(), 59);
        due.is("longest text", Due.text(x, 0, longest), 1);
        due.is("longest rub", Due.text(x, 1, longest.replace('s', 'v')), 1);
        for (int k = 0; k < 60; k++) {
            x.picture(-100, -100, 66, 40);
            x.seen(2);
            x.throwsOf(0, 0, 50, 40);
        }
        due.is("no error", x.told(1), 0);
    }
}

import java.lang.reflect.InvocationTargetException;
import java.lang.reflect.Method;
import java.util.Arrays;
import java.util.Comparator;
import java.util.TreeSet;

/** Runs each test of a bound, told under its name: all methods that begin with promise and its two digits. */
public final class BoundsTest {
    private static final Class<?>[] TESTS = {TextBounds.class, WorthBounds.class, NumberBounds.class, SumBounds.class,
        MonthBounds.class, TradeBounds.class, DayBounds.class, SpeechBounds.class, RefusedBounds.class};
    private static final int PROMISES = 43;

    public static void main(String[] args) throws IllegalAccessException {
        Check check = Bounds.CHECK;
        TreeSet<Integer> promises = new TreeSet<>();
        for (Class<?> tests : TESTS) {
            Method[] methods = tests.getDeclaredMethods();
            Arrays.sort(methods, Comparator.comparing(Method::getName));
            for (Method test : methods) {
                if (test.getName().startsWith("promise")) {
                    promises.add(Integer.parseInt(test.getName().substring(7, 9)));
                    check.begin(test.getName());
                    run(test, check);
                }
            }
        }
        check.begin("all");
        for (int promise = 1; promise <= PROMISES; promise++) {
            check.due("promise " + promise + " has a test", true, promises.contains(promise));
        }
        check.finish("BoundsTest");
    }

    private static void run(Method test, Check check) throws IllegalAccessException {
        try {
            test.invoke(null);
        } catch (InvocationTargetException e) {
            check.due("throws " + e.getCause(), 0, 1);
        }
    }
}

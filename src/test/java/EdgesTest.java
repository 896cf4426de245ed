import java.lang.reflect.InvocationTargetException;
import java.lang.reflect.Method;
import java.lang.reflect.Modifier;
import java.util.ArrayList;
import java.util.Comparator;
import java.util.List;
import java.util.NoSuchElementException;
import java.util.Random;

/** Any call with any arguments in any state: nothing is thrown but what the document names. */
public final class EdgesTest {
    private static final int[] EDGES = {Integer.MIN_VALUE, Integer.MIN_VALUE + 1, -1000001, -1000000, -1000, -3, -2, -1,
        0, 1, 2, 3, 5, 6, 7, 8, 9, 10, 20, 21, 30, 31, 40, 59, 60, 61, 99, 100, 101, 159, 160, 161, 199, 200, 201, 998,
        999, 1000, 1001, 12345678, Integer.MAX_VALUE - 99, Integer.MAX_VALUE - 1, Integer.MAX_VALUE};
    private static final String[] TEXTS = {"7,4,0;ab3,bc2", "1,2;ab1", "99,1,2,3,4,5;ab9,bc9,cd9,de9,ef9,fa9,ac9,bd9",
        "y:1", "y:n>3?[n-t]*d/[l-s]*9999*9999", "y:!(n<50&!n=i)|s>l?n*n*n*n", "y:n=n", ";", "y:[[[[[[n]]]]]]"};

    public static void main(String[] args) throws IllegalAccessException {
        Check check = new Check();
        List<Method> face = new ArrayList<>();
        for (Method method : TabooIsles.class.getDeclaredMethods()) {
            if (Modifier.isPublic(method.getModifiers())) {
                face.add(method);
            }
        }
        face.sort(Comparator.comparing(Method::getName));
        for (int seed = 0; seed < 1500 && check.wrong() < 10; seed++) {
            run(new Random(seed), face, check);
        }
        check.finish("EdgesTest");
    }

    private static void run(Random random, List<Method> face, Check check) throws IllegalAccessException {
        TabooIsles isles = new TabooIsles();
        for (int k = 0; k < 512; k++) {
            if (random.nextInt(20) == 0) {
                Check.tape(isles, TEXTS[random.nextInt(TEXTS.length)]);
                isles.text(random.nextInt(2));
            }
            call(isles, face.get(random.nextInt(face.size())), random, check);
        }
    }

    private static void call(TabooIsles isles, Method method, Random random, Check check)
            throws IllegalAccessException {
        Object[] arguments = new Object[method.getParameterCount()];
        for (int k = 0; k < arguments.length; k++) {
            int value = random.nextInt(4) == 0 ? EDGES[random.nextInt(EDGES.length)] : random.nextInt(4);
            arguments[k] = method.getParameterTypes()[k] == long.class ? (Object) random.nextLong() : (Object) value;
        }
        try {
            method.invoke(isles, arguments);
        } catch (InvocationTargetException e) {
            boolean due = method.getName().equals("taboo") && e.getCause() instanceof NoSuchElementException;
            check.due(method + " throws " + e.getCause(), true, due);
        }
    }
}

import java.io.IOException;
import java.lang.reflect.Field;
import java.lang.reflect.Method;
import java.lang.reflect.Modifier;
import java.nio.file.Files;
import java.nio.file.Path;
import java.util.ArrayList;
import java.util.Arrays;
import java.util.List;
import java.util.TreeSet;

/** The face is the document's and no more; the source keeps to what can be seen of LANGUAGE.md. */
public final class FaceTest {
    private static final String SOURCE = "src/main/java/TabooIsles.java";
    private static final String FACE = "int feed(int,int,int,int,int);boolean end(int);int fault(int);int text(int);"
            + "int taboo(int,int);int way(int,int);boolean custom(int,int);int forbidden(int,int,int);boolean hand(int);"
            + "int pay(int,int,int,int);long ways(int,int,int,int);int cant(int,int,int);int family(int,int,int);"
            + "int splits(int,int);int date(int,int);int debt(int,int,int);int bit(int,int,int);"
            + "boolean weight(int,int);int likely(int,int,int);int good();boolean price(int,int,int);"
            + "int deal(int,int,int,int);int gain(int,int,int,int,int);boolean today(int);int change(int,int,int);"
            + "int drown(int,int,long);int say(int,int);int breach(int);int fines(int);int safe(int,int);"
            + "int game(int,int,int,int,int);int spoken(int,int);int carried(int,int,int);int near(int,int,int);"
            + "int joint(int,int,int,int);int worst(int,int,int);int owes();int calendar(int,int);"
            + "int twins(int,int,int);int image();int back();int count(int)";
    private static final String[] BARRED = {"->", "::", "catch", "finally", "Exact(", "synchronized", "assert ",
        "System.out", "System.nano", "System.current", "instanceof", "lambda", "try {", "protected", "static {", "var "};

    private static final Check CHECK = new Check();

    public static void main(String[] args) throws IOException {
        members();
        inside();
        source();
        CHECK.finish("FaceTest");
    }

    private static void members() {
        Class<?> face = TabooIsles.class;
        TreeSet<String> found = new TreeSet<>();
        TreeSet<String> names = new TreeSet<>();
        for (Method method : face.getDeclaredMethods()) {
            if (!Modifier.isPrivate(method.getModifiers())) {
                found.add(signature(method));
                names.add(method.getName());
            }
        }
        TreeSet<String> want = new TreeSet<>(Arrays.asList(FACE.split(";")));
        CHECK.due("face " + found, true, found.equals(want));
        for (Method method : face.getDeclaredMethods()) {
            boolean hidden = Modifier.isPrivate(method.getModifiers());
            CHECK.due("name of " + method, false, hidden && names.contains(method.getName()));
        }
        List<String> open = new ArrayList<>();
        for (Field field : face.getDeclaredFields()) {
            if (!Modifier.isPrivate(field.getModifiers())) {
                open.add(field.getName());
            }
        }
        CHECK.due("constants " + open, true, open.equals(List.of("NONE", "HIDDEN")));
        CHECK.due("NONE", -1, TabooIsles.NONE);
        CHECK.due("HIDDEN", -1000000, TabooIsles.HIDDEN);
        CHECK.due("final", true, Modifier.isFinal(face.getModifiers()));
        CHECK.due("constructors", 1, face.getDeclaredConstructors().length);
    }

    private static String signature(Method method) {
        List<String> types = new ArrayList<>();
        for (Class<?> type : method.getParameterTypes()) {
            types.add(type.getName());
        }
        return method.getReturnType().getName() + " " + method.getName() + "(" + String.join(",", types) + ")";
    }

    private static void inside() {
        Class<?>[] inner = TabooIsles.class.getDeclaredClasses();
        CHECK.due("classes", true, inner.length <= 12);
        for (Class<?> one : inner) {
            int how = one.getModifiers();
            CHECK.due(one + " is private and static", true, Modifier.isPrivate(how) && Modifier.isStatic(how));
            int fields = 0;
            for (Field field : one.getDeclaredFields()) {
                fields += Modifier.isStatic(field.getModifiers()) ? 0 : 1;
            }
            CHECK.due(one + " has few fields", true, fields <= 20);
            for (Method method : one.getDeclaredMethods()) {
                CHECK.due(method + " has few parameters", true, method.getParameterCount() <= 7);
            }
        }
    }

    private static void source() throws IOException {
        List<String> lines = Files.readAllLines(Path.of(SOURCE));
        String from = "";
        int started = 0;
        for (int k = 0; k < lines.size(); k++) {
            String line = lines.get(k);
            for (String barred : BARRED) {
                CHECK.due(line + " has " + barred, false, line.contains(barred));
            }
            CHECK.due(line + " is plain", true, line.chars().allMatch(c -> c >= 32 && c < 127));
            if (line.matches(" {4}( {4})?[a-z].*\\(.*\\{")) {
                from = line;
                started = k;
            }
            if (line.matches(" {4}( {4})?\\}")) {
                CHECK.due(from + " is short", true, from.isEmpty() || k - started <= 60);
                from = "";
            }
        }
    }
}

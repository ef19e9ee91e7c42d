import java.lang.reflect.InvocationTargetException;
import java.lang.reflect.Method;
import java.lang.reflect.Modifier;
import java.util.ArrayList;
import java.util.Comparator;
import java.util.List;
import java.util.Random;

/** Any call in any state ends without a throw, twice alike, and asking changes nothing that is told. */
public final class StormTest {
    private static final String[] TEXTS = {
        Check.FORGE, "", "down 5 0 20 0;down 5 0 20 0;up 5 0 0 0;cloth 40 3 2;rivet 0 0;",
        "day;day;oil 0;", "rivet 0 1;heat 0;part 0;cut 0 0;grind up 0;", "long 21;left no 1;", "left 1;", "down 0 0 0 0;", "x"};

    public static void main(String[] args) throws IllegalAccessException {
        List<Method> methods = new ArrayList<>();
        for (Method m : BladePairs.class.getDeclaredMethods()) {
            if (Modifier.isPublic(m.getModifiers())) {
                methods.add(m);
            }
        }
        methods.sort(Comparator.comparing(Method::getName));
        Check.due("methods of the face", methods.size(), 37 - 1);
        Random r = new Random(5);
        for (int object = 0; object < 1500; object++) {
            storm(methods, r);
        }
        Check.end();
    }

    private static void storm(List<Method> methods, Random r) throws IllegalAccessException {
        BladePairs x = new BladePairs();
        BladePairs y = new BladePairs();
        for (int i = 0; i < 500; i++) {
            if (r.nextInt(12) == 0) {
                String text = r.nextBoolean() ? TEXTS[r.nextInt(TEXTS.length)] : Oracle.random(r).text();
                int sort = r.nextInt(4);
                int at = r.nextInt(4) - 1;
                Check.due("text", Check.tell(x, sort, at, text), Check.tell(y, sort, at, text));
                continue;
            }
            Method m = methods.get(r.nextInt(methods.size()));
            Object[] arguments = new Object[m.getParameterCount()];
            for (int a = 0; a < arguments.length; a++) {
                arguments[a] = m.getParameterTypes()[a] == boolean.class ? (Object) r.nextBoolean() : (Object) any(r);
            }
            Check.due(m.getName(), call(m, x, arguments), call(m, y, arguments));
        }
    }

    private static int any(Random r) {
        switch (r.nextInt(12)) {
            case 0:
                return r.nextInt();
            case 1:
                return r.nextBoolean() ? Integer.MIN_VALUE : Integer.MAX_VALUE;
            case 2:
                return r.nextInt(150);
            case 3:
                return -r.nextInt(5);
            default:
                return r.nextInt(8) - 1;
        }
    }

    private static long call(Method m, BladePairs x, Object[] arguments) throws IllegalAccessException {
        try {
            Object got = m.invoke(x, arguments);
            return got instanceof Boolean b ? (b ? 1 : 0) : ((Number) got).longValue();
        } catch (InvocationTargetException e) {
            e.getCause().printStackTrace(System.out);
            Check.due(m.getName() + " threw " + e.getCause(), 1, 0);
            return 0;
        }
    }
}

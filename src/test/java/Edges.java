import java.lang.reflect.InvocationTargetException;
import java.lang.reflect.Method;
import java.util.ArrayList;
import java.util.Arrays;
import java.util.Comparator;
import java.util.List;

/** Runs the tests of a class that say their words of the document, each on objects of its own. */
final class Edges {
    private Edges() {
    }

    static List<Method> testsOf(Class<?> tests) {
        List<Method> found = new ArrayList<>();
        for (Method m : tests.getDeclaredMethods()) {
            if (m.isAnnotationPresent(Says.class)) {
                found.add(m);
            }
        }
        found.sort(Comparator.comparing(Method::getName));
        return found;
    }

    static void run(Class<?> tests) {
        for (Method m : testsOf(tests)) {
            Check.about("promise " + Arrays.toString(m.getAnnotation(Says.class).promise()) + ", " + m.getName() + ": ");
            int before = Check.asked();
            try {
                m.setAccessible(true);
                m.invoke(null);
            } catch (InvocationTargetException e) {
                Check.due("threw " + e.getCause(), 1, 0);
            } catch (IllegalAccessException e) {
                Check.due("could not be run: " + e, 1, 0);
            }
            Check.due("it asks for something", Check.asked() > before, true);
        }
        Check.about("");
        Check.end(tests.getName());
    }

    /** The first numbers that are not allowed on either side, and the farthest ones. */
    static int[] beyond(int least, int most) {
        return new int[] {Integer.MIN_VALUE, least - 1, most + 1, Integer.MAX_VALUE};
    }

    /** A FORGE of so many DOWNS, UPS, each fitting each as well as can be. */
    static String alike(int downs, int ups) {
        return "down 5 0 0 0;".repeat(downs) + "up 5 0 0 0;".repeat(ups);
    }

    /** rivet of each DOWN in turn with these UPS, NONE for none. */
    static String rivets(int... ups) {
        StringBuilder s = new StringBuilder();
        for (int d = 0; d < ups.length; d++) {
            s.append(ups[d] < 0 ? "" : "rivet " + d + " " + ups[d] + ";");
        }
        return s.toString();
    }

    /** A new object with a FORGE and a YEAR. */
    static BladePairs year(String forge, String year) {
        BladePairs x = Check.forge(forge);
        Check.due("year " + year, Check.tell(x, 1, BladePairs.NONE, year), 0);
        return x;
    }

    /** A new object with a FORGE and CLUES. */
    static BladePairs clues(String forge, String clues) {
        BladePairs x = Check.forge(forge);
        Check.due("clues " + clues, Check.tell(x, 2, BladePairs.NONE, clues), 0);
        return x;
    }
}

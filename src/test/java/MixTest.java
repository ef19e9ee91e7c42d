import java.lang.reflect.InvocationTargetException;
import java.lang.reflect.Method;
import java.lang.reflect.Modifier;
import java.util.ArrayList;
import java.util.Comparator;
import java.util.List;
import java.util.Random;
import java.util.Set;

/** Whatever was asked before, of whichever FORGE: the answer is that of a new object that is told the same and asked nothing else. */
public final class MixTest {
    private static final int NONE = BladePairs.NONE;
    private static final Set<String> CHANGING = Set.of("feed", "end", "text", "image", "again");
    private static final String[] DEEDS = {"rivet # #;", "heat #;", "part #;", "cut # #;", "cut # #;", "grind down #;", "grind up #;", "oil #;", "day;"};
    private static final String[] CLUES = {"long no #;", "apart no #;", "rough no #;", "left no 0;", "left 1;"};

    public static void main(String[] args) throws ReflectiveOperationException {
        List<Method> asking = new ArrayList<>();
        for (Method m : BladePairs.class.getDeclaredMethods()) {
            if (Modifier.isPublic(m.getModifiers()) && !CHANGING.contains(m.getName())) {
                asking.add(m);
            }
        }
        asking.sort(Comparator.comparing(Method::getName));
        Random r = new Random(11);
        for (int i = 0; i < 60; i++) {
            String[] texts = {Oracle.random(r).text(), Oracle.random(r).text(), lines(r, DEEDS, 12), lines(r, DEEDS, 12),
                lines(r, CLUES, 4), lines(r, CLUES, 4)};
            mix(asking, texts, r);
        }
        Check.end();
    }

    private static String lines(Random r, String[] forms, int most) {
        StringBuilder s = new StringBuilder();
        int n = r.nextInt(most + 1);
        for (int i = 0; i < n; i++) {
            String line = forms[r.nextInt(forms.length)];
            while (line.contains("#")) {
                line = line.replaceFirst("#", "" + r.nextInt(6));
            }
            s.append(line);
        }
        return s.toString();
    }

    private static BladePairs told(String[] texts) {
        BladePairs x = new BladePairs();
        for (int i = 0; i < texts.length; i++) {
            Check.due(texts[i], Check.tell(x, i / 2, NONE, texts[i]), i % 2);
        }
        return x;
    }

    private static void mix(List<Method> asking, String[] texts, Random r) throws ReflectiveOperationException {
        BladePairs x = told(texts);
        for (int i = 0; i < 350; i++) {
            Method m = asking.get(r.nextInt(asking.size()));
            Object[] numbers = new Object[m.getParameterCount()];
            StringBuilder name = new StringBuilder(m.getName());
            for (int a = 0; a < numbers.length; a++) {
                boolean flag = m.getParameterTypes()[a] == boolean.class;
                numbers[a] = flag ? (Object) r.nextBoolean() : (Object) number(r, a);
                name.append(' ').append(numbers[a]);
            }
            Check.due(name.toString(), call(m, x, numbers), call(m, told(texts), numbers));
        }
    }

    /** The first number is mostly a FORGE's, the later ones are mostly small. */
    private static int number(Random r, int place) {
        if (r.nextInt(8) == 0) {
            return r.nextInt(140) - 2;
        }
        return place == 0 ? r.nextInt(2) : r.nextInt(7) - 1;
    }

    private static long call(Method m, BladePairs x, Object[] numbers) throws IllegalAccessException {
        try {
            return ((Number) m.invoke(x, numbers)).longValue();
        } catch (InvocationTargetException e) {
            Check.due(m.getName() + " threw " + e.getCause(), 1, 0);
            return 0;
        }
    }
}

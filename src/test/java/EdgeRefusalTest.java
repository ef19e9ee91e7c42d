import java.lang.reflect.InvocationTargetException;
import java.lang.reflect.Method;
import java.util.ArrayList;
import java.util.LinkedHashMap;
import java.util.List;
import java.util.Map;
import java.util.function.Supplier;

/**
 * The edges of all promises once more: what is refused, and what is only asked, changes nothing that is told.
 * Of two objects made alike one gets the calls, the other not; then both have the same to tell.
 */
public final class EdgeRefusalTest {
    private static final int NONE = BladePairs.NONE;
    private static final int MIN = Integer.MIN_VALUE;
    private static final int MAX = Integer.MAX_VALUE;

    /** Calls that only ask, each with numbers that are good in rich(). */
    private static final Map<String, Object[]> ASKING = new LinkedHashMap<>();
    /** What each of them answers to numbers that are far off. */
    private static final Map<String, Integer> REFUSED = new LinkedHashMap<>();

    public static void main(String[] args) {
        asks("fault", NONE, 1);
        asks("forge", -2, 0, 50);
        asks("fit", NONE, 0, 1, 2, true);
        asks("deed", -2, 0, 1, 0);
        asks("till", NONE, 0, 0);
        asks("state", -2, 0, 0, 3, 10);
        asks("leaving", NONE, 0, 5);
        asks("row", NONE, 0, 4, 1);
        asks("rows", NONE, 0, 2);
        asks("trade", NONE, 0, 0);
        asks("works", NONE, 0, 1);
        asks("grind", -2, 30, 20, true);
        asks("moment", NONE, 1, 9, 9, 0);
        asks("rest", NONE, 3, 4, 0);
        asks("clue", -2, 0, 1, 1);
        asks("whose", -2, 0, 0, 10);
        asks("drawn", -2, 0, 5, 60, 10);
        asks("crew", NONE, 0);
        asks("idle", NONE, 0, 0, 0);
        asks("moves", NONE, 0, 3, true);
        asks("rings", NONE, 0, true);
        asks("lone", NONE, 0);
        asks("rank", NONE, 0, 1);
        asks("trued", NONE, 0, 0, 1, true);
        asks("tips", NONE, 0);
        asks("swap", NONE, 0, true);
        asks("settles", NONE, 0);
        asks("share", NONE, 0, 0, true);
        asks("hire", -2, 0, 0, false);
        asks("line", NONE, 0, 9, 2);
        asks("count", -2, 1);
        Edges.run(EdgeRefusalTest.class);
    }

    private static void asks(String name, int refused, Object... good) {
        ASKING.put(name, good);
        REFUSED.put(name, refused);
    }

    /** Two of each sort, images 0 and 1, a FAULT, and a text of CLUES on the tape. */
    private static BladePairs rich() {
        BladePairs x = Check.forge(Check.FORGE);
        Check.tell(x, 1, NONE, "day;");
        x.image(0);
        Check.tell(x, 1, 0, "cut 0 0;heat 0;part 0;rivet 0 2;day;");
        Check.tell(x, 0, NONE, "down 20 3 20 1;down 19 2 18 0;up 17 1 16 1;rivet 1 0;cloth 70 20 9;cloth 69 19 8;");
        Check.tell(x, 2, NONE, "long no 40;left no 2;");
        Check.tell(x, 2, NONE, "rough no 3;");
        x.image(1);
        Check.tell(x, 1, NONE, "oil 0;");
        Check.tell(x, 0, 1, "down 20 3 20 2;");
        Check.tape(x, "left 2;apart no 3;");
        return x;
    }

    /** All that can be told of an object, in few enough calls; it is not as it was then. */
    private static List<Long> all(BladePairs x) {
        List<Long> all = new ArrayList<>();
        told(x, all);
        all.add((long) tapeOf(x));
        all.add((long) x.text(2, x.count(2) == 0 ? NONE : 0));
        told(x, all);
        return all;
    }

    /** How many bytes the tape has, which is as before then. */
    private static int tapeOf(BladePairs x) {
        int fed = x.feed(0, 0, 0, 0, 0);
        if (fed != NONE) {
            return x.end(fed - 20);
        }
        int n = 600;
        while (x.end(n) == NONE) {
            n--;
        }
        return n;
    }

    private static void told(BladePairs x, List<Long> all) {
        for (int sort = 0; sort < 3; sort++) {
            all.add((long) x.count(sort));
        }
        all.add((long) x.fault(0));
        all.add((long) x.fault(1));
        for (int f = 0; f < 2; f++) {
            for (int tens = 0; tens <= 13; tens++) {
                for (int i = 0; i < 3; i++) {
                    all.add((long) x.forge(f, 10 * tens + i));
                }
            }
            for (int k = NONE; k < 6; k++) {
                for (int what = 0; what < 3; what++) {
                    all.add((long) x.deed(f, k, what));
                }
            }
            for (int k = NONE; k < 3; k++) {
                for (int what = 0; what < 3; what++) {
                    all.add((long) x.clue(f, k, what));
                }
            }
        }
    }

    /** Objects are made anew for what is told now and for each image, as one object has no more than 512 calls. */
    private static void same(String name, Supplier<BladePairs> one, Supplier<BladePairs> other) {
        Check.due(name + ": all is as it was", all(one.get()).equals(all(other.get())), true);
        for (int k = 0; k < 3; k++) {
            BladePairs x = one.get();
            BladePairs y = other.get();
            Check.due(name + ": image " + k, x.again(k), y.again(k));
            Check.due(name + ": all of image " + k, all(x).equals(all(y)), true);
        }
    }

    private static long call(BladePairs x, String name, Object... numbers) {
        for (Method m : BladePairs.class.getMethods()) {
            if (m.getName().equals(name) && m.getDeclaringClass() == BladePairs.class) {
                try {
                    Object got = m.invoke(x, numbers);
                    return got instanceof Boolean b ? (b ? 1 : 0) : ((Number) got).longValue();
                } catch (InvocationTargetException | IllegalAccessException e) {
                    Check.due(name + " threw " + e.getCause(), 1, 0);
                }
            }
        }
        return Long.MIN_VALUE;
    }

    @Says(promise = {5, 6, 7, 8, 9, 10, 11, 12, 13, 14, 15, 16, 17, 18, 19, 20, 21, 22, 23, 24, 25, 26, 27, 28, 29, 30, 31, 32, 33, 34, 35},
        words = "Nothing is promised beyond the answers and state changes described above")
    static void whatIsOnlyAskedChangesNothing() {
        for (String name : ASKING.keySet()) {
            same(name, () -> {
                BladePairs x = rich();
                long first = call(x, name, ASKING.get(name));
                Check.due(name + " the second time", call(x, name, ASKING.get(name)), first);
                return x;
            }, EdgeRefusalTest::rich);
        }
        same("all of them", () -> {
            BladePairs x = rich();
            ASKING.forEach((name, good) -> call(x, name, good));
            return x;
        }, EdgeRefusalTest::rich);
    }

    @Says(promise = {5, 6, 7, 8, 9, 10, 11, 12, 13, 14, 15, 16, 17, 18, 19, 20, 21, 22, 23, 24, 25, 26, 27, 28, 29, 30, 31, 32, 33, 34, 35},
        words = "Nothing is promised beyond the answers and state changes described above")
    static void numbersThatAreFarOffAreRefusedAndChangeNothing() {
        for (String name : ASKING.keySet()) {
            same(name, () -> farOff(rich(), name), EdgeRefusalTest::rich);
            same(name + " of nothing told", () -> farOff(new BladePairs(), name), BladePairs::new);
        }
    }

    /** Each number in turn being far off, all others good. */
    private static BladePairs farOff(BladePairs x, String name) {
        Object[] good = ASKING.get(name);
        for (int i = 0; i < good.length; i++) {
            boolean seed = name.equals("drawn") && i == 1;
            if (!(good[i] instanceof Integer) || seed) {
                continue;
            }
            for (int far : new int[] {MIN, MIN + 1, -1000, -3, 1000, MAX - 1, MAX}) {
                Object[] numbers = good.clone();
                numbers[i] = far;
                Check.due(name + ", number " + i + " being " + far, call(x, name, numbers), REFUSED.get(name));
            }
        }
        return x;
    }

    @Says(promise = {2, 3, 36, 37}, words = "Nothing is promised beyond the answers and state changes described above")
    static void refusedChangesChangeNothing() {
        same("refused", () -> refusedChanges(rich()), EdgeRefusalTest::rich);
        same("refused of nothing told", () -> refusedChanges(new BladePairs()), BladePairs::new);
        same("feed", () -> {
            BladePairs x = full();
            Check.due("feed", x.feed(-1, 0, 1, 2, 3), NONE);
            Check.due("feed", x.feed(0, 0, 0, 0, 0), NONE);
            return x;
        }, EdgeRefusalTest::full);
    }

    private static BladePairs refusedChanges(BladePairs x) {
        for (int n : new int[] {MIN, -1, 601, MAX}) {
            Check.due("end(" + n + ")", x.end(n), NONE);
        }
        for (int k : Edges.beyond(0, 2)) {
            Check.due("image(" + k + ")", x.image(k), false);
            Check.due("again(" + k + ")", x.again(k), false);
        }
        Check.due("again(2), which was not made", x.again(2), false);
        return x;
    }

    private static BladePairs full() {
        BladePairs x = rich();
        Check.tape(x, "left 2;apart no 3;" + " ".repeat(582));
        return x;
    }

    /** As rich() has it, but for an empty tape and FAULT 0, by another text() that is refused. */
    private static BladePairs bare(BladePairs x) {
        x.end(0);
        Check.due("no such sort, nothing on the tape", x.text(9, 9), -2);
        return x;
    }

    @Says(promise = 4, words = "-2: there is none such, there are as many as may be, or no such sort (no text is read then, FAULT 0).")
    static void aRefusedTextChangesTheTapeAndTheFaultAlone() {
        int[][] calls = {{0, NONE}, {1, NONE}, {2, NONE}, {0, 2}, {1, 2}, {2, 2}, {0, -2}, {1, MIN}, {2, MAX}, {3, 0}, {-1, 0},
            {MAX, NONE}, {MIN, NONE}};
        for (int[] call : calls) {
            String name = "text(" + call[0] + ", " + call[1] + ")";
            same(name, () -> {
                BladePairs x = rich();
                Check.due("the FAULT before", x.fault(0), 2);
                Check.due(name, x.text(call[0], call[1]), -2);
                return x;
            }, () -> bare(rich()));
        }
    }

    @Says(promise = 4, words = "NONE: a FAULT.")
    static void aFaultyTextChangesTheTapeAndTheFaultAlone() {
        String[][] faulty = {{"down 1 0 0 0;x", "down 1 0 0 2;", "up 1 0 0 0;".repeat(7), "rivet 0 0;"},
            {"day;x", "oil 6;", "day;".repeat(41)}, {"left 1;x", "left 3;", "left 1;".repeat(9)}};
        for (int sort = 0; sort < 3; sort++) {
            for (int fault = 1; fault <= faulty[sort].length; fault++) {
                for (int at : new int[] {NONE, 0, 1}) {
                    tellsNothing(sort, at, faulty[sort][fault - 1], fault);
                }
            }
        }
    }

    private static void tellsNothing(int sort, int at, String text, int fault) {
        same("sort " + sort + " at " + at + ", FAULT " + fault, () -> {
            BladePairs x = roomFor(at);
            Check.due("text", Check.tell(x, sort, at, text), NONE);
            Check.due("FAULT", x.fault(0), fault);
            Check.due("the tape is empty", x.end(1), NONE);
            return bare(x);
        }, () -> bare(roomFor(at)));
    }

    /** By image 0 there is room for a further one of each sort. */
    private static BladePairs roomFor(int at) {
        BladePairs x = rich();
        if (at == NONE) {
            x.again(0);
        }
        return x;
    }
}

import java.io.IOException;
import java.lang.reflect.Constructor;
import java.lang.reflect.Field;
import java.lang.reflect.Method;
import java.lang.reflect.Modifier;
import java.nio.file.Files;
import java.nio.file.Path;
import java.util.Arrays;
import java.util.List;
import java.util.Set;
import java.util.TreeSet;
import java.util.stream.Collectors;

/** The document's face, and the rules of ../shared/LANGUAGE.md, by the RuleBook, which is itself held by sources that break them. */
public final class LanguageTest {
    private static final String SKELETON = "public final class BladePairs { public static final int NONE = -1; private int n = 0;"
            + " public BladePairs() { } %s }";
    /** The number of the rule, and what breaks it. */
    private static final String[][] WRONGS = {
        {"1", "public static int OTHER = 3;"},
        {"1", "int open = 3;"},
        {"1", "int open() { return 3; }"},
        {"1", "public int rank() { return 3; } private static final class B { private int rank() { return 4; } }"},
        {"2", "private final class B { }"},
        {"2", "public static final class B { }"},
        {"2", "private static class B { } private static final class C extends B { }"},
        {"2", "private static class B { } private B b = new B() { };"},
        {"2", "public int a() { class B { } return 3; }"},
        {"3", "private double d = 1;"},
        {"3", "private Object o = null;"},
        {"3", "private int[][] o = new int[2][2];"},
        {"4", "public int a() { return Math.addExact(1, 2); }"},
        {"4", "public int a() { return Integer.MAX_VALUE; }"},
        {"4", "public int a() { return \"a\".hashCode(); }"},
        {"4", "public long a() { return System.nanoTime(); }"},
        {"4", "private String s = \"\u00e9\";"},
        {"5", "private static int state = 3;"},
        {"5", "private static final int[] ROW = new int[3];"},
        {"5", "static { }"},
        {"6", "public int a() { throw new IllegalArgumentException(); }"},
        {"6", "public int a() { try { return 3; } finally { } }"},
        {"6", "public int a() { assert n > 0; return 3; }"},
        {"6", "public int a() { return switch (n) { case 1 -> 3; default -> 4; }; }"},
        {"6", "public int hashCode() { return 3; }"},
        {"6", "private static Runnable r = () -> { };"},
        {"8", "private int b(int d) { return d > 3 ? 3 : b(d + 1); }"},
        {"8", "public int a(int d) { return b(d); } private int b(int d) { return c(d); } private int c(int d) { return b(d); }"},
        {"9", "public int a() { while (n != 3) { n++; } return 3; }"},
        {"9", "public int a() { for (;;) { n++; } }"},
        {"10", "public boolean a(String s) { return s == \"a\"; }"},
        {"10", "private String s = \"a\" + n;"},
        {"11", "public int a(int b, int c, int d, int e, int f, int g, int h, int i) { return 3; }"},
        {"11", "public int a() { return 3; " + "\n".repeat(70) + "}"},
        {"11", classes("BCDEFGHIJKLMN")},
        {"11", "public int a() { return b(); } private int b() { return c(); } private int c() { return d(); }"
                + "private int d() { return e(); } private int e() { return f(); } private int f() { return g(); }"
                + "private int g() { return h(); } private int h() { return Math.abs(n); }"},
        {"12", "public int a() { int[] row = new int[n]; return row.length; }"},
        {"12", "public int a() { return b().n; } private static BladePairs b() { return new BladePairs(); }"},
    };
    /** What the class may do, though it is near to what is wrong. */
    private static final String RIGHT = "private static final int[] ROW = {1, 2}; private final int[] kept = new int[3];"
            + "public int a(long b) { for (int i = 0; i < 3 && n != 4; i++) { n += c(0, (int) b); } return kept.length; }"
            + "private static int c(int d, int e) { return d > 3 ? Math.max(ROW[0], e) : c(d + 1, e); }";
    private static final String FACE = "int feed(int, int, int, int, int); int end(int); int text(int, int); int fault(int); "
            + "int forge(int, int); int fit(int, int, int, boolean); int deed(int, int, int); int till(int, int); "
            + "int state(int, int, int, int); int leaving(int, int); int row(int, int, int); int rows(int, int); "
            + "int trade(int, int); int works(int, int); int grind(int, int, boolean); long moment(int, int, int, int); "
            + "int rest(int, int, int); int clue(int, int, int); int whose(int, int, int); int drawn(int, int, int, int); "
            + "int crew(int); int idle(int, int, int); int moves(int, int, boolean); int rings(int, boolean); int lone(int); "
            + "int rank(int, int); int trued(int, int, int, boolean); int tips(int); int swap(int, boolean); int settles(int); "
            + "long share(int, int, boolean); int hire(int, int, boolean); int line(int, int, int); int count(int); "
            + "boolean image(int); boolean again(int)";

    public static void main(String[] args) throws IOException {
        face();
        ruleBookSees();
        String source = Files.readString(Path.of("src/main/java/BladePairs.java"));
        for (String broken : RuleBook.broken(source)) {
            Check.due("rule " + broken, true, false);
        }
        Check.due("a package line", source.contains("package "), false);
        Check.due("signs up to 126", source.chars().allMatch(sign -> sign <= 126), true);
        Check.end();
    }

    private static String classes(String names) {
        return names.replaceAll(".", "private static final class $0 { } ");
    }

    private static void ruleBookSees() throws IOException {
        for (String[] wrong : WRONGS) {
            List<String> broken = RuleBook.broken(String.format(SKELETON, wrong[1]));
            boolean seen = broken.stream().anyMatch(b -> b.startsWith(wrong[0] + ",") || b.startsWith(wrong[0] + ":"));
            Check.due("rule " + wrong[0] + " is seen broken by " + wrong[1] + ", but " + broken, seen, true);
        }
        List<String> broken = RuleBook.broken(String.format(SKELETON, RIGHT));
        Check.due("nothing is seen broken where all is right, but " + broken, broken.isEmpty(), true);
    }

    private static void face() {
        Set<String> got = new TreeSet<>();
        for (Method m : BladePairs.class.getDeclaredMethods()) {
            if (!Modifier.isPrivate(m.getModifiers())) {
                Check.due(m + " is public, and of an object", m.getModifiers(), Modifier.PUBLIC);
                got.add(m.getReturnType() + " " + m.getName() + Arrays.stream(m.getParameterTypes()).map(Class::getName)
                        .collect(Collectors.joining(", ", "(", ")")));
            }
        }
        Check.due("the face " + got, got.equals(new TreeSet<>(List.of(FACE.split("; ")))), true);
        for (Field f : BladePairs.class.getDeclaredFields()) {
            Check.due(f + " is hidden", Modifier.isPrivate(f.getModifiers()), !f.getName().equals("NONE"));
        }
        Constructor<?>[] constructors = BladePairs.class.getDeclaredConstructors();
        Check.due("constructors", constructors.length, 1);
        Check.due("the constructor's parameters", constructors[0].getParameterCount(), 0);
        Check.due("the constructor is public", Modifier.isPublic(constructors[0].getModifiers()), true);
        Check.due("NONE", BladePairs.NONE, -1);
    }
}

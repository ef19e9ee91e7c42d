import java.io.IOException;
import java.lang.reflect.Constructor;
import java.lang.reflect.Field;
import java.lang.reflect.Method;
import java.lang.reflect.Modifier;
import java.nio.file.Files;
import java.nio.file.Path;
import java.util.List;
import java.util.Set;
import java.util.TreeSet;
import java.util.regex.Matcher;
import java.util.regex.Pattern;

/** The rules of LANGUAGE.md that can be seen from the source or the class, and the document's face. */
public final class LanguageTest {
    private static final List<String> BANNED = List.of("throw", "try", "catch", "synchronized", "assert", "package",
            "Exact", "->", "::", "System.out", "System.nano", "System.current", "Random", "Thread", "protected", "hashCode",
            "toString", "native", "volatile", "static \\{");
    private static final String FACE = "feed:5 end:1 text:2 fault:1 forge:2 fit:4 deed:3 till:2 state:4 leaving:2 row:3 "
            + "rows:2 trade:2 works:2 grind:3 moment:4 rest:3 clue:3 whose:3 drawn:4 crew:1 idle:3 moves:3 rings:2 lone:1 "
            + "rank:2 trued:4 tips:1 swap:2 settles:1 share:3 hire:3 line:3 count:1 image:1 again:1";

    public static void main(String[] args) throws IOException {
        String source = Files.readString(Path.of("src/main/java/BladePairs.java"));
        String code = source.replaceAll("(?s)/\\*.*?\\*/", "").replaceAll("//[^\n]*", "").replaceAll("\"[^\"]*\"", "\"\"");
        for (String banned : BANNED) {
            String pattern = Character.isLetter(banned.charAt(0)) ? "\\b" + banned + "|" + "Exact\\(" : banned;
            Check.due("the source has " + banned, Pattern.compile(pattern).matcher(code).find(), false);
        }
        for (char sign : source.toCharArray()) {
            if (sign > 126) {
                Check.due("a sign beyond 126", sign, 126);
            }
        }
        imports(code);
        face();
        methodLengths(code);
        Check.due("classes", Pattern.compile("\\bclass ").matcher(code).results().count() <= 12, true);
        Check.end();
    }

    private static void imports(String code) {
        Matcher m = Pattern.compile("import ([^;]*);").matcher(code);
        while (m.find()) {
            Check.due("import of " + m.group(1), Set.of("java.util.Arrays", "java.util.ArrayList", "java.util.List")
                    .contains(m.group(1)), true);
        }
    }

    private static void face() {
        Set<String> got = new TreeSet<>();
        for (Method m : BladePairs.class.getDeclaredMethods()) {
            if (!Modifier.isPrivate(m.getModifiers())) {
                Check.due(m + " is public", Modifier.isPublic(m.getModifiers()), true);
                got.add(m.getName() + ":" + m.getParameterCount());
            }
        }
        Check.due("the face " + got, got.equals(new TreeSet<>(List.of(FACE.split(" ")))), true);
        Set<String> publicNames = new TreeSet<>();
        got.forEach(name -> publicNames.add(name.substring(0, name.indexOf(':'))));
        for (Field f : BladePairs.class.getDeclaredFields()) {
            Check.due(f + " is hidden", Modifier.isPrivate(f.getModifiers()), !f.getName().equals("NONE"));
        }
        Constructor<?>[] constructors = BladePairs.class.getDeclaredConstructors();
        Check.due("constructors", constructors.length, 1);
        Check.due("NONE", BladePairs.NONE, -1);
        for (Class<?> inner : BladePairs.class.getDeclaredClasses()) {
            Check.due(inner + " is static", Modifier.isStatic(inner.getModifiers()), true);
            for (Method m : inner.getDeclaredMethods()) {
                Check.due(m + " bears a public name", publicNames.contains(m.getName()), false);
                Check.due(m + " takes seven at most", m.getParameterCount() <= 7, true);
            }
            int fields = 0;
            for (Field f : inner.getDeclaredFields()) {
                fields += Modifier.isStatic(f.getModifiers()) ? 0 : 1;
                Check.due(f + " is no state of the class",
                        Modifier.isStatic(f.getModifiers()) && !Modifier.isFinal(f.getModifiers()), false);
            }
            Check.due(inner + " has some twenty fields at most", fields <= 20, true);
        }
    }

    /** By their indents: a method ends at the first brace as far in as it began. */
    private static void methodLengths(String code) {
        String[] lines = code.split("\n");
        for (int i = 0; i < lines.length; i++) {
            Matcher m = Pattern.compile("^( {4}| {8})\\S[^;=]*\\) \\{$").matcher(lines[i]);
            if (m.find()) {
                int j = i;
                while (!lines[j].equals(m.group(1) + "}")) {
                    j++;
                }
                Check.due(lines[i] + " is short", j - i <= 60, true);
            }
        }
    }
}

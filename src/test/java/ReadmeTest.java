import java.io.IOException;
import java.lang.reflect.InvocationTargetException;
import java.lang.reflect.Method;
import java.lang.reflect.Modifier;
import java.net.URL;
import java.net.URLClassLoader;
import java.nio.file.Files;
import java.nio.file.Path;
import java.util.Comparator;
import java.util.List;
import java.util.regex.MatchResult;
import java.util.regex.Matcher;
import java.util.regex.Pattern;
import java.util.stream.Stream;
import javax.tools.ToolProvider;

/** The example of README.md is compiled and run as it stands there; each call answers what stands behind it. */
public final class ReadmeTest {
    private static final Pattern BLOCK = Pattern.compile("(?s)```java\n(.*?)```");
    private static final Pattern ANSWERED = Pattern.compile("(?m)^(x\\.\\w+\\(.*\\)); +// (-?\\d+|true|false)(:.*)?$");

    public static void main(String[] args) throws IOException, ReflectiveOperationException {
        Matcher blocks = BLOCK.matcher(Files.readString(Path.of("README.md")));
        Check.due("a block of the method tape", blocks.find(), true);
        String tape = blocks.group(1);
        Check.due("a block of calls", blocks.find(), true);
        String calls = blocks.group(1);
        everyCallIsAnswered(calls);
        everyMethodIsCalled(calls);
        List<MatchResult> dues = ANSWERED.matcher(calls).results().toList();
        List<?> got = answers(tape, calls);
        Check.due("answers", got.size(), dues.size());
        for (int i = 0; i < Math.min(got.size(), dues.size()); i++) {
            String call = dues.get(i).group(1);
            Check.due(call + " = " + got.get(i), got.get(i).equals(dues.get(i).group(2)), true);
        }
        Check.end();
    }

    private static void everyCallIsAnswered(String calls) {
        for (String line : calls.split("\n")) {
            Check.due("an answer stands behind " + line, !line.startsWith("x.") || ANSWERED.matcher(line).find(), true);
        }
    }

    private static void everyMethodIsCalled(String calls) {
        for (Method m : BladePairs.class.getDeclaredMethods()) {
            if (Modifier.isPublic(m.getModifiers())) {
                Check.due("README.md calls " + m.getName(), calls.contains("x." + m.getName() + "("), true);
            }
        }
    }

    /** What the calls answer, as texts. */
    private static List<?> answers(String tape, String calls) throws IOException, ReflectiveOperationException {
        Path folder = Files.createTempDirectory("readme");
        try {
            Path source = folder.resolve("Example.java");
            Files.writeString(source, "public class Example {\n" + tape
                    + "public static java.util.List<String> run() {\njava.util.List<String> got = new java.util.ArrayList<>();\n"
                    + ANSWERED.matcher(calls).replaceAll("got.add(String.valueOf($1));") + "return got;\n}\n}\n");
            int failed = ToolProvider.getSystemJavaCompiler().run(null, null, null, "-cp", System.getProperty("java.class.path"),
                    "-d", folder.toString(), source.toString());
            Check.due("the example compiles", failed, 0);
            return failed == 0 ? runExample(folder) : List.of();
        } finally {
            remove(folder);
        }
    }

    private static List<?> runExample(Path folder) throws IOException, ReflectiveOperationException {
        try (URLClassLoader loader = new URLClassLoader(new URL[] {folder.toUri().toURL()}, ReadmeTest.class.getClassLoader())) {
            return (List<?>) loader.loadClass("Example").getMethod("run").invoke(null);
        } catch (InvocationTargetException e) {
            Check.due("the example threw " + e.getCause(), true, false);
            return List.of();
        }
    }

    private static void remove(Path folder) throws IOException {
        try (Stream<Path> files = Files.walk(folder)) {
            for (Path file : files.sorted(Comparator.reverseOrder()).toList()) {
                Files.delete(file);
            }
        }
    }
}

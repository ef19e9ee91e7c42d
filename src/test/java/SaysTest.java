import java.io.File;
import java.io.IOException;
import java.lang.reflect.Method;
import java.nio.file.Files;
import java.nio.file.Path;
import java.util.ArrayList;
import java.util.Arrays;
import java.util.List;
import java.util.regex.Matcher;
import java.util.regex.Pattern;

/** Whether each place of the document that names an edge is among the words that some test says it holds. */
public final class SaysTest {
    private static final Path DOCUMENT = Path.of("../shared/DOC.md");
    private static final int PROMISES = 37;
    /** How the document names edges. */
    private static final Pattern EDGE = Pattern.compile("at most|at least|\\d+ \\.\\. \\d+|\\b0 to \\d+|\\d or 1\\b|or 2 digits|up to|of several|"
            + "of like ones|\\(cut\\)|not in 100|\\bNONE\\b|-2\\b|\\bfalse\\b|more than|below 0|above 0|or more|of one, too|also if|worst|"
            + "better than none|or never|by none|nothing is|the first by|th DOWN|st DEED|if both|none counts|least terms");

    public static void main(String[] args) throws IOException, ClassNotFoundException {
        List<Method> tests = new ArrayList<>();
        File[] files = new File("src/test/java").listFiles((folder, name) -> name.matches("Edge\\w+Test\\.java"));
        Arrays.sort(files);
        for (File file : files) {
            tests.addAll(Edges.testsOf(Class.forName(file.getName().replace(".java", ""))));
        }
        Check.due("there are tests of edges", tests.size() >= PROMISES, true);
        String document = plain(Files.readString(DOCUMENT));
        wordsAreTheDocuments(tests, document);
        termsAreHeld(tests, document);
        for (int promise = 1; promise <= PROMISES; promise++) {
            promiseIsHeld(tests, document, promise);
        }
        Check.end();
    }

    /** Lines and paragraphs are no matter. */
    private static String plain(String text) {
        return text.replace("```text", " ").replace("```", " ").replaceAll("\\s+", " ");
    }

    private static void wordsAreTheDocuments(List<Method> tests, String document) {
        for (Method test : tests) {
            for (String words : test.getAnnotation(Says.class).words()) {
                Check.due("\"" + words + "\" of " + test.getName() + " stands in the document", document.contains(words), true);
            }
        }
    }

    private static void termsAreHeld(List<Method> tests, String document) {
        String terms = document.substring(document.indexOf("## Terms"), document.indexOf("The constants:"));
        isHeld("Terms", terms, tests);
    }

    private static void promiseIsHeld(List<Method> tests, String document, int promise) {
        List<Method> own = new ArrayList<>();
        for (Method test : tests) {
            if (Arrays.stream(test.getAnnotation(Says.class).promise()).anyMatch(p -> p == promise)) {
                own.add(test);
            }
        }
        Check.due("tests of promise " + promise, !own.isEmpty(), true);
        int from = document.indexOf("## Promise " + promise + ":");
        int to = document.indexOf("## ", from + 3);
        Check.due("promise " + promise + " stands in the document", from >= 0 && to > from, true);
        if (from >= 0 && to > from) {
            isHeld("promise " + promise, document.substring(from, to), own);
        }
    }

    private static void isHeld(String name, String part, List<Method> tests) {
        boolean[] held = new boolean[part.length()];
        for (Method test : tests) {
            for (String words : test.getAnnotation(Says.class).words()) {
                for (int at = part.indexOf(words); at >= 0; at = part.indexOf(words, at + 1)) {
                    Arrays.fill(held, at, at + words.length(), true);
                }
            }
        }
        Matcher edges = EDGE.matcher(part);
        while (edges.find()) {
            boolean all = true;
            for (int i = edges.start(); i < edges.end(); i++) {
                all &= held[i];
            }
            String around = part.substring(Math.max(0, edges.start() - 40), Math.min(part.length(), edges.end() + 30));
            Check.due(name + ": a test holds \"" + around + "\"", all, true);
        }
    }
}

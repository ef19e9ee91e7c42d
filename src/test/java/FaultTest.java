import java.util.ArrayList;
import java.util.List;
import java.util.Random;

/** Promises 4 and 5 once more: texts by a fixed seed, whole and spoilt, against a reader written another way. */
public final class FaultTest {
    private static final int NONE = BladePairs.NONE;
    private static final String[][] LINES = {
        {"down # # # # ;", "up # # # # ;", "rivet # # ;", "cloth # # # ;"},
        {"rivet # # ;", "cut # # ;", "heat # ;", "part # ;", "oil # ;", "grind down # ;", "grind up # ;", "day ;"},
        {"long # ;", "apart # ;", "rough # ;", "left # ;", "long no # ;", "apart no # ;", "rough no # ;", "left no # ;"}};
    private static final String[] WORDS = {"down", "up", "rivet", "cloth", "heat", "part", "cut", "oil", "grind",
        "day", "long", "apart", "rough", "left", "no", ";", "0", "1", "7", "12", "100", "x", "A", "\t", "-", "" + (char) 200};

    public static void main(String[] args) {
        Random r = new Random(99);
        int[] seen = new int[5];
        for (int i = 0; i < 30000; i++) {
            int sort = r.nextInt(3);
            String text = randomText(r, sort);
            int[] want = faultOf(sort, text);
            seen[want[0]]++;
            BladePairs x = new BladePairs();
            int got = Check.tell(x, sort, NONE, text);
            Check.due("text " + sort + " \"" + text + "\"", got, want[0] == 0 ? 0 : NONE);
            Check.due("FAULT of " + sort + " \"" + text + "\"", x.fault(0), want[0]);
            Check.due("place in " + sort + " \"" + text + "\"", x.fault(1), want[1]);
        }
        for (int fault = 0; fault < 5; fault++) {
            Check.due("texts with FAULT " + fault + " are many", seen[fault] > 500, true);
        }
        Check.end();
    }

    private static String randomText(Random r, int sort) {
        StringBuilder s = new StringBuilder();
        boolean wild = r.nextInt(3) == 0;
        int lines = r.nextInt(4) == 0 ? r.nextInt(60) : r.nextInt(16);
        for (int i = 0; i < lines; i++) {
            String line = LINES[sort][r.nextInt(LINES[sort].length)];
            for (String token : line.split(" ")) {
                String put = token.equals("#") ? "" + number(r, line, wild) : token;
                if (wild && r.nextInt(150) == 0) {
                    put = WORDS[r.nextInt(WORDS.length)];
                }
                boolean tight = s.length() == 0 || put.equals(";") || s.charAt(s.length() - 1) == ';';
                s.append(tight && r.nextInt(5) != 0 ? "" : r.nextInt(9) == 0 ? "\n " : " ").append(put);
            }
        }
        if (s.length() > 600) {
            s.setLength(s.lastIndexOf(";", 599) + 1);
        }
        if (wild && s.length() > 0 && r.nextInt(4) == 0) {
            s.setLength(r.nextInt(s.length()));
        }
        return s.toString();
    }

    private static int number(Random r, String line, boolean wild) {
        if (wild && r.nextInt(40) == 0) {
            return r.nextInt(100);
        }
        if (line.startsWith("rivet")) {
            return r.nextInt(3);
        }
        return r.nextInt(60) == 0 ? r.nextInt(3) : 1;
    }

    private static int[] faultOf(int sort, String text) {
        List<String> tokens = new ArrayList<>();
        List<Integer> places = new ArrayList<>();
        split(text, tokens, places);
        List<int[]> lines = new ArrayList<>();
        int from = 0;
        while (from < tokens.size()) {
            int[] line = bestLine(sort, tokens, from);
            if (line[1] < LINES[sort][line[0]].split(" ").length) {
                int at = from + line[1];
                return new int[] {1, at < tokens.size() ? places.get(at) : text.length()};
            }
            lines.add(new int[] {line[0], from});
            from += line[1];
        }
        return laterFault(sort, text, tokens, places, lines);
    }

    private static void split(String text, List<String> tokens, List<Integer> places) {
        java.util.regex.Matcher m = java.util.regex.Pattern.compile("[a-z]+|[0-9]+|[^\n ]").matcher(text);
        while (m.find()) {
            tokens.add(m.group());
            places.add(m.start());
        }
    }

    /** The line that goes on longest from a token, and how many tokens it goes on for. */
    private static int[] bestLine(int sort, List<String> tokens, int from) {
        int[] best = {0, 0};
        for (int l = 0; l < LINES[sort].length; l++) {
            String[] line = LINES[sort][l].split(" ");
            int n = 0;
            while (n < line.length && from + n < tokens.size() && goes(line[n], tokens.get(from + n))) {
                n++;
            }
            if (n > best[1]) {
                best = new int[] {l, n};
            }
        }
        return best;
    }

    private static boolean goes(String pattern, String token) {
        return pattern.equals("#") ? token.matches("[0-9]{1,2}") : pattern.equals(token);
    }

    private static int[] laterFault(int sort, String text, List<String> tokens, List<Integer> places, List<int[]> lines) {
        int[] counts = new int[LINES[sort].length];
        int told = 0;
        int downsNamed = 0;
        int upsNamed = 0;
        for (int[] line : lines) {
            String[] pattern = LINES[sort][line[0]].split(" ");
            counts[line[0]]++;
            told++;
            boolean many = sort == 0 ? counts[line[0]] > 6 && line[0] != 2 : told > (sort == 1 ? 40 : 8);
            if (many) {
                return new int[] {3, places.get(line[1])};
            }
            int n = 0;
            for (int i = 0; i < pattern.length; i++) {
                if (pattern[i].equals("#")) {
                    int number = Integer.parseInt(tokens.get(line[1] + i));
                    if (number < least(pattern[0], n) || number > most(sort, pattern[0], n)) {
                        return new int[] {2, places.get(line[1] + i)};
                    }
                    n++;
                }
            }
            if (sort == 0 && line[0] == 2) {
                downsNamed = Math.max(downsNamed, 1 + Integer.parseInt(tokens.get(line[1] + 1)));
                upsNamed = Math.max(upsNamed, 1 + Integer.parseInt(tokens.get(line[1] + 2)));
            }
        }
        boolean missing = sort == 0 && (downsNamed > counts[0] || upsNamed > counts[1]);
        return missing ? new int[] {4, text.length()} : new int[] {0, NONE};
    }

    private static int least(String word, int n) {
        return n == 0 && (word.equals("down") || word.equals("up") || word.equals("cloth")) ? 1 : 0;
    }

    private static int most(int sort, String word, int n) {
        if (sort == 2) {
            return word.equals("left") ? 2 : word.equals("apart") ? 20 : 40;
        }
        if (word.equals("down") || word.equals("up")) {
            return new int[] {20, 3, 20, 1}[n];
        }
        return word.equals("cloth") ? new int[] {70, 20, 9}[n] : 5;
    }
}

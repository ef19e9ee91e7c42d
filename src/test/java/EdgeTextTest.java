import java.util.Set;

/** The edges of texts (promises 4 and 5): bytes, tokens, lines, NUMBERS, how many there may be, which FAULT comes first. */
public final class EdgeTextTest {
    private static final int NONE = BladePairs.NONE;
    private static final String SIX = "down 1 0 0 0;".repeat(6) + "up 1 0 0 0;".repeat(6);
    private static final String[][] LINES = {
        {"down 1 0 0 0 ;", "up 1 0 0 0 ;", "cloth 1 0 0 ;"},
        {"rivet 0 0 ;", "cut 0 0 ;", "heat 0 ;", "part 0 ;", "oil 0 ;", "grind down 0 ;", "grind up 0 ;", "day ;"},
        {"long 0 ;", "apart 0 ;", "rough 0 ;", "left 0 ;", "long no 0 ;", "apart no 0 ;", "rough no 0 ;", "left no 0 ;"}};
    private static final String[] WORDS = {"down", "up", "rivet", "cloth", "heat", "part", "cut", "oil", "grind", "day",
        "long", "apart", "rough", "left", "no"};

    public static void main(String[] args) {
        Edges.run(EdgeTextTest.class);
    }

    private static BladePairs fault(int sort, String text, int fault, int place) {
        BladePairs x = new BladePairs();
        String name = sort + " \"" + text + "\"";
        Check.due("text " + name, Check.tell(x, sort, NONE, text), fault == 0 ? 0 : NONE);
        Check.due("FAULT of " + name, x.fault(0), fault);
        Check.due("place in " + name, x.fault(1), place);
        return x;
    }

    private static BladePairs good(int sort, String text) {
        return fault(sort, text, 0, NONE);
    }

    /** All NUMBERS of one or two digits in the place of #: which can be, and that they are told as they are. */
    private static void numbers(int sort, String line, int least, int most, int what) {
        int place = line.indexOf('#');
        for (int n = 0; n <= 99; n++) {
            for (String form : n < 10 ? new String[] {"" + n, "0" + n} : new String[] {"" + n}) {
                String text = line.replace("#", form);
                if (n < least || n > most) {
                    fault(sort, text, 2, place);
                } else {
                    BladePairs x = good(sort, text);
                    int got = sort == 0 ? x.forge(0, what) : sort == 1 ? x.deed(0, 0, what) : x.clue(0, 0, what);
                    Check.due("told by " + text, got, n);
                }
            }
        }
    }

    @Says(promise = {4, 6}, words = "LENGTH, 1 .. 20")
    static void lengthsAre1To20() {
        numbers(0, "down # 0 0 0;", 1, 20, 10);
        numbers(0, "up # 0 0 0;", 1, 20, 60);
    }

    @Says(promise = {4, 6}, words = "STEEL, 0 .. 3")
    static void steelsAre0To3() {
        numbers(0, "down 1 # 0 0;", 0, 3, 20);
        numbers(0, "up 1 # 0 0;", 0, 3, 70);
    }

    @Says(promise = {4, 6}, words = "EDGE, 0 .. 20")
    static void edgesAre0To20() {
        numbers(0, "down 1 0 # 0;", 0, 20, 30);
        numbers(0, "up 1 0 # 0;", 0, 20, 80);
    }

    @Says(promise = {4, 6}, words = "HAND, 0 or 1")
    static void handsAre0Or1() {
        numbers(0, "down 1 0 0 #;", 0, 1, 40);
        numbers(0, "up 1 0 0 #;", 0, 1, 90);
    }

    @Says(promise = {4, 6}, words = "CLOTHS, at most 6, from 0 on: HARD, 1 .. 70, PRICE, 0 .. 20, a DAY, 0 .. 9.")
    static void numbersOfCloths() {
        numbers(0, "cloth # 0 0;", 1, 70, 110);
        numbers(0, "cloth 1 # 0;", 0, 20, 120);
        numbers(0, "cloth 1 0 #;", 0, 9, 130);
    }

    @Says(promise = {4, 6}, words = "rivet: a DOWN, an UP, 0 .. 5: they are a PAIR, those with whom they were are in none")
    static void rivetsAreOf0To5() {
        numbers(0, "rivet 0 #;" + SIX, 0, 5, 50);
        numbers(0, "rivet # 0;" + SIX, 0, 5, 100);
    }

    @Says(promise = {4, 8}, words = "(a DOWN, 0 .. 5; rivet: an UP, 0 .. 5; cut: a CLOTH, 0 .. 5)")
    static void deedsAreOf0To5() {
        for (String word : new String[] {"rivet", "cut"}) {
            numbers(1, word + " # 0;", 0, 5, 1);
            numbers(1, word + " 0 #;", 0, 5, 2);
        }
        for (String word : new String[] {"heat", "part", "oil"}) {
            numbers(1, word + " #;", 0, 5, 1);
        }
        numbers(1, "grind down #;", 0, 5, 2);
        numbers(1, "grind up #;", 0, 5, 2);
    }

    @Says(promise = {4, 19}, words = "LONG n, 0 .. 40, APART n, 0 .. 20, ROUGH n, 0 .. 40, LEFT n, 0 .. 2, each is so, or not.")
    static void numbersOfClues() {
        String[] words = {"long", "apart", "rough", "left"};
        int[] mosts = {40, 20, 40, 2};
        for (int i = 0; i < 4; i++) {
            numbers(2, words[i] + " #;", 0, mosts[i], 1);
            numbers(2, words[i] + " no #;", 0, mosts[i], 1);
        }
    }

    @Says(promise = {4, 5}, words = "3 a 7th DOWN, a 7th UP, a 7th CLOTH, a 41st DEED, a 9th CLUE, at its first token.")
    static void asManyAsMayBeAndOneMore() {
        int[][] mosts = {{6, 6, 6}, {40, 40, 40, 40, 40, 40, 40, 40}, {8, 8, 8, 8, 8, 8, 8, 8}};
        for (int sort = 0; sort < 3; sort++) {
            for (int l = 0; l < LINES[sort].length; l++) {
                String line = LINES[sort][l].replace(" ;", ";");
                int most = mosts[sort][l];
                BladePairs x = good(sort, line.repeat(most));
                int got = sort == 0 ? x.forge(0, l) : sort == 1 ? x.deed(0, NONE, 0) : x.clue(0, NONE, 0);
                Check.due("as many as may be of " + line, got, most);
                fault(sort, line.repeat(most + 1), 3, most * line.length());
                fault(sort, line.repeat(most) + " \n" + line, 3, most * line.length() + 2);
            }
        }
    }

    @Says(promise = {4, 6}, words = "A FORGE has DOWNS and UPS, BLADES, at most 6 each, from 0 on")
    static void sixOfEachAtOnce() {
        String all = "up 2 0 0 0;down 1 0 0 0;cloth 3 0 0;".repeat(6);
        BladePairs x = good(0, all);
        for (int i = 0; i < 6; i++) {
            Check.due("DOWN " + i, x.forge(0, 10 + i), 1);
            Check.due("UP " + i, x.forge(0, 60 + i), 2);
            Check.due("CLOTH " + i, x.forge(0, 110 + i), 3);
        }
        fault(0, all + "down 1 0 0 0;", 3, all.length());
        fault(0, all + "up 1 0 0 0;", 3, all.length());
        fault(0, all + "cloth 1 0 0;", 3, all.length());
        good(0, all + "rivet 5 5;".repeat(10));
        // the second FORGE has six of its own
        Check.due("a second one", Check.tell(x, 0, NONE, all), 1);
        Check.due("DOWNS", x.forge(1, 0), 6);
    }

    @Says(promise = {4, 8, 19}, words = {"A YEAR has DEEDS, at most 40, from 0 on.", "CLUES are at most 8, from 0 on"})
    static void deedsAndCluesOfAllSortsCountTogether() {
        String deeds = "rivet 0 0;heat 0;part 0;cut 0 0;grind up 0;oil 0;day;";
        String year = deeds.repeat(5) + "day;".repeat(5);
        BladePairs x = good(1, year);
        Check.due("DEEDS", x.deed(0, NONE, 0), 40);
        fault(1, year + "oil 0;", 3, year.length());
        String clues = "long 1;apart no 1;rough 1;left no 1;".repeat(2);
        x = good(2, clues);
        Check.due("CLUES", x.clue(0, NONE, 0), 8);
        fault(2, clues + "left 1;", 3, clues.length());
    }

    @Says(promise = {2, 4}, words = "THE TAPE has at most 600 bytes.")
    static void aTextOf600Bytes() {
        String lines = "cloth 1 0 0;".repeat(6) + "rivet 0 0;".repeat(50) + "down 1 0 0 0;";
        String text = lines + " ".repeat(600 - 11 - lines.length()) + "up 1 0 0 0;";
        Check.due("bytes", text.length(), 600);
        BladePairs x = good(0, text);
        Check.due("the last line is told", x.forge(0, 50), 0);
        fault(0, text.substring(0, 599), 1, 599);
        fault(0, text.substring(0, 599) + " ", 1, 600);
        fault(0, text.substring(0, 599) + "0", 1, 600);
        fault(0, text.substring(0, 589) + " ".repeat(11), 4, 600);
        good(0, " ".repeat(600));
        good(1, "\n".repeat(600));
        fault(2, "1".repeat(600), 1, 0);
        fault(2, "a".repeat(600), 1, 0);
        fault(2, ";".repeat(600), 1, 0);
    }

    @Says(promise = 4, words = {"A FORGE's text: {", "A YEAR's text: {", "CLUES' text: {"})
    static void aTextOfNoLines() {
        for (int sort = 0; sort < 3; sort++) {
            for (String nothing : new String[] {"", " ", "\n", " \n \n "}) {
                BladePairs x = good(sort, nothing);
                Check.due("count", x.count(sort), 1);
                Check.due("size", sort == 0 ? x.forge(0, 0) + x.forge(0, 1) + x.forge(0, 2)
                        : sort == 1 ? x.deed(0, NONE, 0) : x.clue(0, NONE, 0), 0);
            }
        }
    }

    @Says(promise = {4, 5}, words = "TOKENS, as long as they go, blanks (10, 32) between")
    static void everyByteBetweenTokens() {
        for (int sign = 0; sign < 256; sign++) {
            boolean blank = sign == 10 || sign == 32;
            String b = "" + (char) sign;
            // ahead of the first token: a letter makes it longer, any other is wrong
            fault(1, b + "day;", blank ? 0 : 1, blank ? NONE : 0);
            // behind the last one
            fault(1, "day;" + b, blank ? 0 : 1, blank ? NONE : 4);
            // behind a word: a letter makes it longer
            boolean letter = sign >= 'a' && sign <= 'z';
            boolean stop = sign == ';';
            fault(1, "day" + b + ";", blank ? 0 : 1, blank ? NONE : letter ? 0 : stop ? 4 : 3);
            // behind a NUMBER: a digit makes it longer
            boolean digit = sign >= '0' && sign <= '9';
            fault(1, "oil 0" + b + ";", blank || digit && sign <= '5' ? 0 : digit ? 2 : 1,
                    blank || digit && sign <= '5' ? NONE : digit ? 4 : stop ? 6 : 5);
            // in place of the blank between a word and a NUMBER
            fault(1, "oil" + b + "0;", blank || digit && sign == '0' ? 0 : digit ? 2 : 1,
                    blank || digit && sign == '0' ? NONE : letter ? 0 : 3);
            // within a word
            fault(1, "da" + b + "y;", 1, 0);
        }
    }

    @Says(promise = {4, 5}, words = "words, rows of letters a .. z")
    static void wordsGoAsLongAsLettersDo() {
        for (int sort = 0; sort < 3; sort++) {
            for (String line : LINES[sort]) {
                String word = line.substring(0, line.indexOf(' '));
                String rest = line.substring(word.length());
                good(sort, line);
                fault(sort, word + "a" + rest, 1, 0);
                fault(sort, word + "z" + rest, 1, 0);
                fault(sort, "z" + word + rest, 1, 0);
                fault(sort, word + word + rest, 1, 0);
                fault(sort, word.substring(0, word.length() - 1) + rest, 1, 0);
                fault(sort, word.substring(1) + rest, 1, 0);
                for (int i = 0; i < word.length(); i++) {
                    String other = word.charAt(i) == 'z' ? "y" : "z";
                    fault(sort, word.substring(0, i) + other + word.substring(i + 1) + rest, 1, 0);
                }
                fault(sort, word.toUpperCase() + rest, 1, 0);
                fault(sort, word.substring(0, 1).toUpperCase() + word.substring(1) + rest, 1, 0);
            }
        }
        fault(1, "grinddown 0;", 1, 0);
        fault(1, "grind downs 0;", 1, 6);
        fault(1, "grind dow 0;", 1, 6);
        fault(1, "grind ups 0;", 1, 6);
        fault(1, "grind u 0;", 1, 6);
        fault(2, "leftno 0;", 1, 0);
        fault(2, "left not 0;", 1, 5);
        fault(2, "left n 0;", 1, 5);
        good(2, "left no0;");
    }

    @Says(promise = {4, 5}, words = {"NUMBERS, 1 or 2 digits", "(a longer row of digits is no token)"})
    static void numbersHaveOneOrTwoDigits() {
        good(2, "left 0;");
        good(2, "left 00;");
        fault(2, "left 000;", 1, 5);
        fault(2, "left 001;", 1, 5);
        fault(2, "left 100;", 1, 5);
        fault(2, "left 0 0;", 1, 7);
        fault(2, "left 0\n00;", 1, 7);
        fault(2, "left 4294967296;", 1, 5);
        fault(2, "left;", 1, 4);
        fault(2, "left no;", 1, 7);
        good(0, "down 01 00 00 00;");
        fault(0, "down 1 000 0 0;", 1, 7);
        fault(0, "down 1 0 0 100;", 1, 11);
        fault(0, "down 1 0 0 0;100", 1, 13);
        // one digit more and the row of digits is another one
        good(0, "down 20 0 0 0;");
        fault(0, "down 200 0 0;", 1, 5);
    }

    @Says(promise = {4, 5}, words = "; one byte")
    static void everyLineEndsWithOneStop() {
        fault(1, ";", 1, 0);
        fault(1, "day;;", 1, 4);
        fault(1, "day ; ;", 1, 6);
        fault(1, "day day;", 1, 4);
        fault(1, "day", 1, 3);
        good(1, "day\n;");
        good(1, "day;day;");
    }

    @Says(promise = {4, 5}, words = "FAULTS of all, with places (a token's first byte; the end's)")
    static void aTextThatBreaksOff() {
        for (int sort = 0; sort < 3; sort++) {
            for (String line : LINES[sort]) {
                String[] tokens = line.split(" ");
                String begun = line.replace(" ;", ";");
                for (int n = 1; n < tokens.length; n++) {
                    begun += (n == 1 ? "" : " ") + tokens[n - 1];
                    fault(sort, begun, 1, begun.length());
                    fault(sort, begun + "\n ", 1, begun.length() + 2);
                    // what can't come there, in its place
                    fault(sort, begun + " x;", 1, begun.length() + 1);
                    fault(sort, begun + "?", 1, begun.length());
                    boolean numberMay = tokens[n].equals("0") || tokens[n].equals("1") || tokens[n].equals("no");
                    if (!numberMay) {
                        fault(sort, begun + " 0;", 1, begun.length() + 1);
                    }
                    if (!tokens[n].equals(";")) {
                        fault(sort, begun + " ;", 1, begun.length() + 1);
                    }
                }
            }
        }
        fault(0, "rivet", 1, 5);
        fault(0, "rivet 0", 1, 7);
        fault(0, "rivet 0 0", 1, 9);
        fault(0, "rivet 0 0 0;", 1, 10);
    }

    @Says(promise = {4, 5}, words = "1 the first byte or token with which no text goes on")
    static void everyWordAtTheBeginningOfALine() {
        String[] ahead = {"up 1 0 0 0;", "day;", "left 1;"};
        Set<String>[] begins = sets();
        for (int sort = 0; sort < 3; sort++) {
            for (String word : WORDS) {
                boolean goes = begins[sort].contains(word);
                for (String before : new String[] {"", ahead[sort]}) {
                    // where the word goes on, the text breaks off behind it
                    int place = before.length() + (goes ? word.length() : 0);
                    fault(sort, before + word, 1, place);
                }
            }
        }
    }

    @Says(promise = {4, 5}, words = "1 the first byte or token with which no text goes on")
    static void theFirstOfSeveral() {
        // behind each the text would go on by itself, and is wrong once more
        fault(0, "down 1 up 1 0 0 0;x", 1, 7);
        fault(0, "down 1 0 0 0 up 1 0 0 0;x", 1, 13);
        fault(0, "cloth 1 up 1 0 0 0;x", 1, 8);
        fault(0, "cloth 1 0 0 up 1 0 0 0;x", 1, 12);
        fault(0, "rivet 1 up 1 0 0 0;x", 1, 8);
        fault(0, "rivet 1 1 up 1 0 0 0;x", 1, 10);
        fault(0, "x up 1 0 0 0;x", 1, 0);
        fault(1, "cut day;x", 1, 4);
        fault(1, "cut 0 day;x", 1, 6);
        fault(1, "cut 0 0 day;x", 1, 8);
        fault(1, "oil day;x", 1, 4);
        fault(1, "grind day;x", 1, 6);
        fault(1, "grind up day;x", 1, 9);
        fault(1, "day day;x", 1, 4);
        fault(1, "; day;x", 1, 0);
        fault(2, "left left 1;x", 1, 5);
        fault(2, "left no left 1;x", 1, 8);
        fault(2, "left 1 left 1;x", 1, 7);
        fault(2, "no left 1;x", 1, 0);
    }

    @SuppressWarnings({"unchecked", "rawtypes"})
    private static Set<String>[] sets() {
        return new Set[] {Set.of("down", "up", "rivet", "cloth"),
            Set.of("rivet", "cut", "heat", "part", "oil", "grind", "day"), Set.of("long", "apart", "rough", "left")};
    }

    @Says(promise = {4, 5}, words = "SIDE: 'down' | 'up'.")
    static void everyWordInsideALine() {
        for (String word : WORDS) {
            boolean side = word.equals("down") || word.equals("up");
            fault(1, "grind " + word + " 0;", side ? 0 : 1, side ? NONE : 6);
            fault(1, "oil " + word + " 0;", 1, 4);
            fault(1, "day " + word + ";", 1, 4);
            boolean no = word.equals("no");
            fault(2, "left " + word + " 0;", no ? 0 : 1, no ? NONE : 5);
            fault(2, "left no " + word + " 0;", 1, 8);
            fault(0, "rivet " + word + " 0;", 1, 6);
            fault(0, "cloth 1 " + word + " 0;", 1, 8);
        }
    }

    @Says(promise = {4, 5}, words = "If there is none, the first by place, of one place the least: 2 a NUMBER that can't be")
    static void fault1ComesAheadOfAllOthers() {
        fault(0, "up 0 9 99 9;x", 1, 12);
        fault(0, "up 0 9 99 9", 1, 11);
        fault(0, "up 1 0 0 0;".repeat(9) + ";", 1, 99);
        fault(0, "rivet 5 5;?", 1, 10);
        fault(1, "cut 9 9;day;day", 1, 15);
        fault(1, "day;".repeat(42) + "day 0;", 1, 172);
        fault(2, "left 9;".repeat(12) + "left 100;", 1, 89);
    }

    @Says(promise = {4, 5}, words = "the first by place, of one place the least")
    static void faults2And3ByPlace() {
        fault(0, "up 0 4 21 2;", 2, 3);
        fault(0, "up 1 4 21 2;", 2, 5);
        fault(0, "up 1 0 21 2;", 2, 7);
        fault(0, "up 1 0 0 2;up 0 0 0 0;", 2, 9);
        fault(0, "up 1 0 0 0;".repeat(6) + "up 0 0 0 0;", 3, 66);
        fault(0, "up 1 0 0 0;".repeat(5) + "up 1 0 0 2;up 1 0 0 0;", 2, 64);
        fault(0, "up 1 0 0 0;".repeat(6) + "cloth 0 0 0;up 1 0 0 0;", 2, 72);
        fault(0, "up 1 0 0 0;".repeat(7) + "down 1 0 0 0;".repeat(7), 3, 66);
        fault(1, "day;".repeat(39) + "oil 6;day;", 2, 160);
        fault(1, "day;".repeat(40) + "oil 6;", 3, 160);
        fault(2, "left 1;".repeat(7) + "left no 3;left 1;", 2, 57);
        fault(2, "left 1;".repeat(8) + "left no 3;", 3, 56);
    }

    @Says(promise = {4, 5}, words = "If there is none of these, at the end's place, of a FORGE: 4 a BLADE that was told of "
        + "(by rivet) and is not there.")
    static void bladesThatAreNotThere() {
        for (int n = 0; n < 6; n++) {
            String downs = "down 1 0 0 0;".repeat(n + 1);
            String ups = "up 1 0 0 0;".repeat(n + 1);
            good(0, downs + ups + "rivet " + n + " " + n + ";");
            good(0, "rivet " + n + " " + n + ";" + downs + ups);
            String noDown = downs.substring(13) + ups + "rivet " + n + " 0;";
            fault(0, noDown, 4, noDown.length());
            String noUp = downs + ups.substring(11) + "rivet 0 " + n + ";";
            fault(0, noUp, 4, noUp.length());
            fault(0, noUp + " \n", 4, noUp.length() + 2);
            // also if they were told of, and are with others at the end
            String parted = "rivet 0 " + n + ";" + "rivet 0 0;" + downs + ups.substring(11);
            fault(0, parted, 4, parted.length());
        }
        // every other FAULT comes ahead of it, wherever it is
        fault(0, "rivet 0 0;cloth 1 0 10;", 2, 20);
        fault(0, "rivet 0 0;" + "up 1 0 0 0;".repeat(7), 3, 76);
        fault(0, "rivet 0 0;cloth", 1, 15);
        // a YEAR may tell of BLADES and CLOTHS that are in no FORGE
        good(1, "rivet 5 5;cut 5 5;grind up 5;");
    }
}

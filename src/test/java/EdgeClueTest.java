/** The edges of promises 19 and 20: CLUES, WHOSE, SURE, NEXT. */
public final class EdgeClueTest {
    private static final int NONE = BladePairs.NONE;

    public static void main(String[] args) {
        Edges.run(EdgeClueTest.class);
    }

    @Says(promise = 19, words = {"How many CLUES (k NONE, what 0)", "-2: there is none such (of either), or for another what."})
    static void cluesOfNoneAndOfEight() {
        for (int size : new int[] {0, 1, 7, 8}) {
            BladePairs x = new BladePairs();
            Check.due("text", Check.tell(x, 2, NONE, "rough no 40;".repeat(size)), 0);
            Check.due("how many", x.clue(0, NONE, 0), size);
            for (int what : new int[] {Integer.MIN_VALUE, -1, 1, 2, 3, Integer.MAX_VALUE}) {
                Check.due("how many, what " + what, x.clue(0, NONE, what), -2);
            }
            for (int k : new int[] {0, size - 1}) {
                if (k >= 0 && k < size) {
                    Check.due("sort of " + k, x.clue(0, k, 0), 2);
                    Check.due("number of " + k, x.clue(0, k, 1), 40);
                    Check.due("so, of " + k, x.clue(0, k, 2), 0);
                    for (int what : Edges.beyond(0, 2)) {
                        Check.due("what " + what + " of " + k, x.clue(0, k, what), -2);
                    }
                }
            }
            for (int k : new int[] {Integer.MIN_VALUE, -2, size, 8, 9, Integer.MAX_VALUE}) {
                for (int what = 0; what < 3; what++) {
                    Check.due("CLUE " + k + " of " + size, x.clue(0, k, what), -2);
                }
            }
        }
    }

    @Says(promise = 19, words = "of CLUE k, what 0: 0 LONG, 1 APART, 2 ROUGH, 3 LEFT, 1: its number, 2: 1 it is so, 0 not.")
    static void cluesOfEverySort() {
        BladePairs x = new BladePairs();
        Check.tell(x, 2, NONE, "long 0;long no 40;apart 20;apart no 0;rough 40;rough no 0;left 2;left no 0;");
        int[][] due = {{0, 0, 1}, {0, 40, 0}, {1, 20, 1}, {1, 0, 0}, {2, 40, 1}, {2, 0, 0}, {3, 2, 1}, {3, 0, 0}};
        for (int k = 0; k < due.length; k++) {
            for (int what = 0; what < 3; what++) {
                Check.due("clue(0, " + k + ", " + what + ")", x.clue(0, k, what), due[k][what]);
            }
        }
    }

    @Says(promise = 19, words = "-2: there is none such (of either), or for another what.")
    static void cluesThatAreNotThere() {
        BladePairs x = new BladePairs();
        for (int told = 0; told <= 2; told++) {
            for (int c : new int[] {Integer.MIN_VALUE, -2, -1, told, 2, 3, Integer.MAX_VALUE}) {
                Check.due("how many of " + c, x.clue(c, NONE, 0), -2);
                Check.due("CLUE 0 of " + c, x.clue(c, 0, 0), -2);
            }
            for (int c = 0; c < told; c++) {
                Check.due("how many of " + c, x.clue(c, NONE, 0), c + 1);
            }
            Check.tell(x, 2, NONE, "left 1;".repeat(told + 1));
        }
    }

    @Says(promise = 20, words = "-2: there is none such (of any), or for another what.")
    static void whoseOfNoSuch() {
        BladePairs x = new BladePairs();
        Check.due("nothing told", x.whose(0, 0, 0), -2);
        Check.tell(x, 2, NONE, "");
        Check.due("no FORGE told", x.whose(0, 0, 0), -2);
        x = Check.forge(Edges.alike(6, 6));
        Check.due("no CLUES told", x.whose(0, 0, 0), -2);
        Check.tell(x, 2, NONE, "");
        Check.due("both told", x.whose(0, 0, 0), 36);
        for (int what : new int[] {0, 1, 2, 3, 10}) {
            for (int n : Edges.beyond(0, 0)) {
                Check.due("FORGE " + n, x.whose(n, 0, what), -2);
                Check.due("CLUES " + n, x.whose(0, n, what), -2);
            }
        }
        for (int what = 4; what < 10; what++) {
            Check.due("what " + what, x.whose(0, 0, what), -2);
        }
        for (int what : new int[] {Integer.MIN_VALUE, Integer.MIN_VALUE + 9, -10, -1, 46, 47, 100, Integer.MAX_VALUE}) {
            Check.due("what " + what, x.whose(0, 0, what), -2);
        }
    }

    @Says(promise = 20, words = {"WHOSE: couples (6 times the DOWN, and the UP) by whom all CLUES are so: how many; the k-th",
        "WHOSE, what 0: how many, 1, 2: SURE of DOWNS, of UPS (NONE: nobody), 3: NEXT (NONE: by nobody), 10 + k: the k-th."})
    static void withoutCluesItIsAnybodys() {
        for (int downs = 0; downs <= 6; downs++) {
            for (int ups = 0; ups <= 6; ups++) {
                BladePairs x = Edges.clues(Edges.alike(downs, ups), "");
                int many = downs * ups;
                Check.due("how many", x.whose(0, 0, 0), many);
                for (int k = 0; k < 40; k++) {
                    Check.due("the " + k + "th", x.whose(0, 0, 10 + k), k < many ? k / ups * 6 + k % ups : -2);
                }
                Check.due("SURE of DOWNS", x.whose(0, 0, 1), many > 0 && downs == 1 ? 0 : NONE);
                Check.due("SURE of UPS", x.whose(0, 0, 2), many > 0 && ups == 1 ? 0 : NONE);
                Check.due("NEXT", x.whose(0, 0, 3), many > 0 ? 0 : NONE);
            }
        }
    }

    private static void whose(String forge, String clues, int... couples) {
        BladePairs x = Edges.clues(forge, clues);
        Check.due("how many by " + clues, x.whose(0, 0, 0), couples.length);
        for (int k = 0; k < couples.length; k++) {
            Check.due("the " + k + "th by " + clues, x.whose(0, 0, 10 + k), couples[k]);
        }
        Check.due("one too many by " + clues, x.whose(0, 0, 10 + couples.length), -2);
    }

    private static final String TWO = "down 1 0 0 0;down 20 0 20 1;up 1 0 0 0;up 20 0 20 1;";

    @Says(promise = 20, words = {"LONG n: their LENGTHS together are n, APART: LENGTHS differ by n, ROUGH: EDGES together are n, LEFT: so many of them "
        + "are of HAND 1."})
    static void theLeastAndTheMostOfEachClue() {
        whose(TWO, "long 2;", 0);
        whose(TWO, "long 21;", 1, 6);
        whose(TWO, "long 40;", 7);
        whose(TWO, "long 0;");
        whose(TWO, "long no 0;", 0, 1, 6, 7);
        whose(TWO, "long no 40;", 0, 1, 6);
        whose(TWO, "apart 0;", 0, 7);
        whose(TWO, "apart 19;", 1, 6);
        whose(TWO, "apart 20;");
        whose(TWO, "apart no 19;", 0, 7);
        whose(TWO, "rough 0;", 0);
        whose(TWO, "rough 20;", 1, 6);
        whose(TWO, "rough 40;", 7);
        whose(TWO, "rough no 0;", 1, 6, 7);
        whose(TWO, "left 0;", 0);
        whose(TWO, "left 1;", 1, 6);
        whose(TWO, "left 2;", 7);
        whose(TWO, "left no 1;", 0, 7);
        // all of eight
        whose(TWO, "left no 0;left no 0;left no 0;left no 0;left no 0;left no 0;left no 0;left 2;", 7);
        whose(TWO, "left 2;left no 0;left no 0;left no 0;left no 0;left no 0;left no 0;left no 2;");
        // whether a PAIR or not
        whose(TWO + "rivet 0 1;", "left 0;", 0);
        whose(TWO + "rivet 0 0;rivet 1 1;", "left 1;", 1, 6);
    }

    @Says(promise = 20, words = "couples (6 times the DOWN, and the UP) by whom all CLUES are so")
    static void cluesOfOtherTextsDoNotCount() {
        BladePairs x = Edges.clues(TWO, "left 0;".repeat(8));
        Check.due("by eight", x.whose(0, 0, 0), 1);
        Check.due("fewer", Check.tell(x, 2, NONE, "left no 1;"), 1);
        Check.due("by one", x.whose(0, 1, 0), 2);
        Check.due("by eight still", x.whose(0, 0, 0), 1);
        Check.due("none in the place of eight", Check.tell(x, 2, 0, ""), 0);
        Check.due("by none", x.whose(0, 0, 0), 4);
        // a FAULT leaves nothing behind
        Check.due("faulty", Check.tell(x, 2, 0, "left 0;left 0;x"), NONE);
        Check.due("by none still", x.whose(0, 0, 0), 4);
        Check.due("one", Check.tell(x, 2, 0, "left 2;"), 0);
        Check.due("by one", x.whose(0, 0, 10), 7);
        Check.due("and no other", x.whose(0, 0, 0), 1);
    }

    @Says(promise = 20, words = "SURE of a side: the DOWN, or the UP, who is in all")
    static void sureOfOneSideOfBothAndOfNone() {
        String three = "down 1 0 0 0;down 5 0 0 1;down 9 0 0 1;up 1 0 0 0;up 5 0 0 0;up 9 0 0 1;";
        sure(three, "left 2;", NONE, 2);
        sure(three, "left 0;", 0, NONE);
        sure(three, "left 2;apart 0;", 2, 2);
        sure(three, "left 1;", NONE, NONE);
        sure(three, "left 2;left 0;", NONE, NONE);
        sure(Edges.alike(6, 6), "", NONE, NONE);
        sure("down 1 0 0 0;".repeat(5) + "down 1 0 0 1;" + "up 1 0 0 0;".repeat(5) + "up 1 0 0 1;", "left 2;", 5, 5);
    }

    private static void sure(String forge, String clues, int down, int up) {
        BladePairs x = Edges.clues(forge, clues);
        Check.due("SURE of DOWNS by " + clues, x.whose(0, 0, 1), down);
        Check.due("SURE of UPS by " + clues, x.whose(0, 0, 2), up);
    }

    private static void next(String forge, String clues, int due) {
        Check.due("NEXT by " + clues + " in " + forge, Edges.clues(forge, clues).whose(0, 0, 3), due);
    }

    @Says(promise = 20, words = "NEXT: the sort of CLUE, 0 to 3, by whose n the greatest number of those couples that have one n is least, of several the "
        + "least.")
    static void nextOfEachSort() {
        // all alike: of several the least
        next(Edges.alike(2, 2), "", 0);
        next(Edges.alike(1, 1), "", 0);
        next("down 1 0 0 0;up 1 0 0 0;up 2 0 0 0;", "", 0);
        // LENGTHS together alike, apart not: 2 and 8, 5 and 5, 8 and 2 leave APART 6 twice, LONG 10 three times
        next("down 2 0 0 0;down 5 0 0 0;up 8 0 0 0;up 5 0 0 0;", "long 10;", 1);
        next("down 5 0 1 0;down 5 0 2 0;up 5 0 0 0;", "", 2);
        next("down 5 0 0 0;down 5 0 0 1;up 5 0 0 0;", "", 3);
        // ROUGH and LEFT tell as much: the least
        next("down 5 0 0 0;down 5 0 1 1;up 5 0 0 0;", "", 2);
        // by nobody
        next(Edges.alike(6, 6), "left 1;", NONE);
        next("", "", NONE);
        next(Edges.alike(6, 0), "", NONE);
        next(Edges.alike(0, 6), "", NONE);
        // only those by whom the CLUES are so count: of all six LONG tells most, of the two that are left LEFT alone
        next("down 5 0 0 0;down 6 0 0 0;up 5 0 0 0;up 5 0 0 1;up 9 0 0 0;", "long 10;", 3);
    }
}

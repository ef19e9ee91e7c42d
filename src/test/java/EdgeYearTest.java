import java.util.Arrays;

/** The edges of promises 8 to 10 and 21: DEEDS, END, STATES, years by a seed. */
public final class EdgeYearTest {
    private static final int NONE = BladePairs.NONE;
    /** One PAIR of POWER 30, one DOWN and one UP in none, a CLOTH they just cut and one they just don't. */
    private static final String PAIR = "down 5 0 0 0;down 5 0 0 0;up 5 0 0 0;up 5 0 0 0;rivet 0 0;cloth 30 7 0;cloth 31 9 0;";

    public static void main(String[] args) {
        Edges.run(EdgeYearTest.class);
    }

    /** END, and that there is a STATE behind each DEED up to it and none behind the next. */
    private static BladePairs till(String forge, String year, int end) {
        BladePairs x = Edges.year(forge, year);
        Check.due("END of " + year, x.till(0, 0), end);
        for (int n = 0; n <= end; n++) {
            Check.due("a STATE behind " + n + " of " + year, x.state(0, 0, n, 0) >= 0, true);
        }
        for (int n : Edges.beyond(0, end)) {
            Check.due("a STATE behind " + n + " of " + year, x.state(0, 0, n, 0), -2);
        }
        return x;
    }

    @Says(promise = 8, words = {"How many DEEDS (k NONE, what 0)", "-2: there is none such (of either), or for another what."})
    static void deedsOfNoneAndOfForty() {
        for (int size : new int[] {0, 1, 39, 40}) {
            BladePairs x = new BladePairs();
            Check.due("text", Check.tell(x, 1, NONE, "rivet 4 3;".repeat(size)), 0);
            Check.due("how many", x.deed(0, NONE, 0), size);
            for (int what : new int[] {Integer.MIN_VALUE, -1, 1, 2, 3, Integer.MAX_VALUE}) {
                Check.due("how many, what " + what, x.deed(0, NONE, what), -2);
            }
            for (int k : new int[] {0, size - 1}) {
                if (k >= 0 && k < size) {
                    Check.due("sort of " + k, x.deed(0, k, 0), 0);
                    Check.due("first of " + k, x.deed(0, k, 1), 4);
                    Check.due("second of " + k, x.deed(0, k, 2), 3);
                    for (int what : Edges.beyond(0, 2)) {
                        Check.due("what " + what + " of " + k, x.deed(0, k, what), -2);
                    }
                }
            }
            for (int k : new int[] {Integer.MIN_VALUE, -2, size, 40, 41, Integer.MAX_VALUE}) {
                for (int what = 0; what < 3; what++) {
                    Check.due("DEED " + k + " of " + size, x.deed(0, k, what), -2);
                }
            }
        }
    }

    @Says(promise = 8, words = "of DEED k, what 0: 0 rivet, 1 heat, 2 part, 3 cut, 4 grind, 5 oil, 6 day, 1, 2: its numbers "
        + "(grind: 0 down, 1 up, the BLADE; NONE without).")
    static void deedsOfEverySort() {
        BladePairs x = new BladePairs();
        Check.tell(x, 1, NONE, "rivet 0 5;rivet 5 0;heat 0;heat 5;part 0;part 5;cut 0 5;cut 5 0;grind down 0;grind down 5;"
                + "grind up 0;grind up 5;oil 0;oil 5;day;");
        int[][] due = {{0, 0, 5}, {0, 5, 0}, {1, 0, NONE}, {1, 5, NONE}, {2, 0, NONE}, {2, 5, NONE}, {3, 0, 5}, {3, 5, 0},
            {4, 0, 0}, {4, 0, 5}, {4, 1, 0}, {4, 1, 5}, {5, 0, NONE}, {5, 5, NONE}, {6, NONE, NONE}};
        for (int k = 0; k < due.length; k++) {
            for (int what = 0; what < 3; what++) {
                Check.due("deed(0, " + k + ", " + what + ")", x.deed(0, k, what), due[k][what]);
            }
        }
        Check.due("DEEDS", x.deed(0, NONE, 0), due.length);
    }

    @Says(promise = 8, words = "-2: there is none such (of either), or for another what.")
    static void yearsThatAreNotThere() {
        BladePairs x = new BladePairs();
        for (int told = 0; told <= 2; told++) {
            for (int y : new int[] {Integer.MIN_VALUE, -2, -1, told, 2, 3, Integer.MAX_VALUE}) {
                Check.due("how many of " + y, x.deed(y, NONE, 0), -2);
                Check.due("DEED 0 of " + y, x.deed(y, 0, 0), -2);
            }
            for (int y = 0; y < told; y++) {
                Check.due("how many of " + y, x.deed(y, NONE, 0), y + 1);
            }
            Check.tell(x, 1, NONE, "day;".repeat(told + 1));
        }
    }

    @Says(promise = 9, words = "NONE: there is none such (of either).")
    static void tillOfNoSuch() {
        BladePairs x = new BladePairs();
        Check.due("nothing told", x.till(0, 0), NONE);
        Check.tell(x, 1, NONE, "day;");
        Check.due("no FORGE told", x.till(0, 0), NONE);
        BladePairs y = Check.forge("");
        Check.due("no YEAR told", y.till(0, 0), NONE);
        Check.tell(y, 1, NONE, "day;day;");
        Check.due("both told", y.till(0, 0), 2);
        for (int n : Edges.beyond(0, 0)) {
            Check.due("FORGE " + n, y.till(n, 0), NONE);
            Check.due("YEAR " + n, y.till(0, n), NONE);
        }
        Check.tell(y, 0, NONE, "down 1 0 0 0;");
        Check.tell(y, 1, NONE, "oil 0;day;day;");
        Check.due("FORGE 0, YEAR 1", y.till(0, 1), 0);
        Check.due("FORGE 1, YEAR 0", y.till(1, 0), 2);
        Check.due("FORGE 1, YEAR 1", y.till(1, 1), 3);
        for (int n : Edges.beyond(0, 1)) {
            Check.due("FORGE " + n, y.till(n, 0), NONE);
            Check.due("YEAR " + n, y.till(0, n), NONE);
        }
    }

    @Says(promise = {9, 10}, words = {"END: the first DEED that can't be, else how many there are.",
        "A STATE is behind the first n DEEDS, n up to END."})
    static void endOfNoDeedAndOfForty() {
        till("", "", 0);
        till("", "day;", 1);
        till("", "oil 0;", 0);
        till("", "oil 0;day;day;", 0);
        till("", "day;".repeat(40), 40);
        till("", "day;".repeat(39) + "oil 0;", 39);
        till("", "day;".repeat(20) + "oil 0;" + "day;".repeat(19), 20);
    }

    @Says(promise = 9, words = {"rivet: both in no PAIR: they are one.", "A DEED can't be, if there is no such BLADE, CLOTH, or it is "
        + "not as said."})
    static void rivetOfTwoInNoPair() {
        BladePairs x = till(PAIR, "rivet 1 1;", 1);
        Check.due("they are one", x.state(0, 0, 1, 31), 1);
        till(PAIR, "rivet 0 1;", 0);
        till(PAIR, "rivet 1 0;", 0);
        till(PAIR, "rivet 0 0;", 0);
        till(PAIR, "rivet 2 1;", 0);
        till(PAIR, "rivet 1 2;", 0);
        till(PAIR, "rivet 1 1;rivet 1 1;", 1);
        String six = Edges.alike(6, 6);
        till(six, "rivet 5 5;rivet 0 0;rivet 5 0;", 2);
        till(Edges.alike(5, 6), "rivet 5 5;", 0);
        till(Edges.alike(6, 5), "rivet 5 5;", 0);
        till(six, "rivet 0 0;heat 0;part 0;rivet 0 0;rivet 1 0;", 4);
    }

    @Says(promise = {9, 10}, words = "heat: a DOWN who is in a PAIR and not hot: he is hot till the day ends.")
    static void heatOfOneInAPair() {
        BladePairs x = till(PAIR, "heat 0;day;heat 0;heat 0;", 3);
        int[] hot = {0, 1, 0, 1};
        for (int n = 0; n < hot.length; n++) {
            Check.due("hot behind " + n, x.state(0, 0, n, 3), hot[n]);
        }
        till(PAIR, "heat 1;", 0);
        till(PAIR, "heat 2;", 0);
        till(PAIR, "heat 5;", 0);
        till(PAIR, "rivet 1 1;heat 1;heat 0;", 3);
        x = till(Edges.alike(6, 6) + Edges.rivets(5, 4, 3, 2, 1, 0), "heat 5;heat 0;heat 1;heat 2;heat 3;heat 4;day;", 7);
        int[] bits = {0, 32, 33, 35, 39, 47, 63, 0};
        for (int n = 0; n < bits.length; n++) {
            Check.due("hot behind " + n, x.state(0, 0, n, 3), bits[n]);
        }
    }

    @Says(promise = {9, 10}, words = "part: a DOWN who is in a PAIR and hot: both are in none.")
    static void partOfOneWhoIsHot() {
        till(PAIR, "part 0;", 0);
        till(PAIR, "part 1;", 0);
        till(PAIR, "part 2;", 0);
        till(PAIR, "heat 0;part 1;", 1);
        till(PAIR, "heat 0;day;part 0;", 2);
        BladePairs x = till(PAIR, "heat 0;part 0;part 0;", 2);
        Check.due("he is in none", x.state(0, 0, 2, 30), NONE);
        // and so is she
        till(PAIR, "heat 0;part 0;rivet 1 0;rivet 0 1;", 4);
        till(PAIR, "rivet 1 1;heat 0;part 1;", 2);
        // each of six, the others staying
        String six = Edges.alike(6, 6) + Edges.rivets(5, 4, 3, 2, 1, 0);
        for (int d = 0; d < 6; d++) {
            x = till(six, "heat " + d + ";part " + d + ";rivet " + d + " " + (5 - d) + ";", 3);
            for (int other = 0; other < 6; other++) {
                Check.due("DOWN " + other + ", " + d + " being parted", x.state(0, 0, 2, 30 + other), other == d ? NONE : 5 - other);
            }
        }
    }

    @Says(promise = {9, 10}, words = "he is hot till the day ends")
    static void whoIsPartedIsHotTillTheDayEnds() {
        BladePairs x = till(PAIR, "heat 0;part 0;heat 0;", 2);
        Check.due("hot, though parted", x.state(0, 0, 2, 3), 1);
        till(PAIR, "heat 0;part 0;rivet 0 0;heat 0;", 3);
        till(PAIR, "heat 0;part 0;rivet 0 0;cut 0 0;", 3);
        till(PAIR, "heat 0;part 0;rivet 0 0;part 0;", 4);
        till(PAIR, "heat 0;part 0;rivet 0 0;day;cut 0 0;heat 0;", 6);
        till(PAIR, "heat 0;part 0;rivet 1 0;cut 1 0;", 4);
    }

    @Says(promise = {9, 10}, words = "cut: a DOWN who is in a PAIR and not hot, and they cut that CLOTH as they are now")
    static void cutOfOneInAPairWhoIsNotHot() {
        till(PAIR, "cut 0 0;", 1);
        till(PAIR, "cut 1 0;", 0);
        till(PAIR, "cut 2 0;", 0);
        till(PAIR, "cut 5 0;", 0);
        till(PAIR, "heat 0;cut 0 0;", 1);
        till(PAIR, "heat 0;day;cut 0 0;", 3);
        till(PAIR, "cut 0 2;", 0);
        till(PAIR, "cut 0 5;", 0);
        till("down 5 0 0 0;up 5 0 0 0;rivet 0 0;", "cut 0 0;", 0);
        till("down 5 0 0 0;up 5 0 0 0;rivet 0 0;" + "cloth 30 1 9;".repeat(6), "cut 0 5;cut 0 0;", 2);
    }

    @Says(promise = {9, 10}, words = "They cut a CLOTH, if POWER is HARD or more.")
    static void cutByJustThePower() {
        till(PAIR, "cut 0 1;", 0);
        till("down 5 0 20 0;up 5 0 20 0;rivet 0 0;cloth 70 1 0;", "cut 0 0;cut 0 0;", 1);
        till("down 5 0 20 0;up 5 0 19 0;rivet 0 0;cloth 70 1 0;", "cut 0 0;", 0);
        till("down 5 0 3 0;up 5 0 2 0;rivet 0 0;cloth 33 1 0;", "cut 0 0;cut 0 0;cut 0 0;", 2);
        // FIT 0, and HARD 1 is the least there is
        till("down 1 0 1 0;up 20 0 0 0;rivet 0 0;cloth 1 1 0;", "cut 0 0;cut 0 0;", 1);
        till("down 1 0 0 0;up 20 0 0 0;rivet 0 0;cloth 1 1 0;", "cut 0 0;", 0);
        // as they are now: ground, and rusted
        till("down 6 0 0 0;up 5 0 0 0;rivet 0 0;cloth 35 1 0;", "cut 0 0;", 0);
        till("down 6 0 0 0;up 5 0 0 0;rivet 0 0;cloth 35 1 0;", "grind down 0;cut 0 0;cut 0 0;", 2);
        till("down 6 0 0 0;up 5 0 0 0;rivet 0 0;cloth 33 1 0;", "grind up 0;cut 0 0;", 1);
        till("down 5 0 1 0;up 5 0 0 0;rivet 0 0;cloth 31 1 0;", "day;cut 0 0;", 1);
    }

    @Says(promise = 10, words = "both EDGES are 1 less, 0 at least, its PRICE is EARNED; both have WORKED that day.")
    static void whatACutDoes() {
        BladePairs x = till("down 5 0 1 0;up 5 0 2 0;rivet 0 0;cloth 30 20 0;cloth 30 0 0;",
                "cut 0 0;cut 0 0;cut 0 0;cut 0 1;", 4);
        int[] downEdges = {1, 0, 0, 0, 0};
        int[] upEdges = {2, 1, 0, 0, 0};
        int[] earned = {0, 20, 40, 60, 60};
        for (int n = 0; n <= 4; n++) {
            Check.due("EDGE of the DOWN behind " + n, x.state(0, 0, n, 10), downEdges[n]);
            Check.due("EDGE of the UP behind " + n, x.state(0, 0, n, 40), upEdges[n]);
            Check.due("EARNED behind " + n, x.state(0, 0, n, 1), earned[n]);
            Check.due("cuts behind " + n, x.state(0, 0, n, 2), n);
        }
        x = till("down 5 0 1 0;up 5 0 2 0;rivet 0 0;cloth 30 20 0;", "cut 0 0;".repeat(40), 40);
        Check.due("the most EARNED", x.state(0, 0, 40, 1), 800);
        Check.due("the most cuts", x.state(0, 0, 40, 2), 40);
    }

    @Says(promise = {9, 10}, words = {"grind: a BLADE in a PAIR whose DOWN is not hot, or in none: EDGE is 5 more, 20 at most, "
        + "LENGTH 1 less; not if that is 1."})
    static void grindingUpTo20AndDownTo1() {
        int[][] edges = {{0, 5}, {14, 19}, {15, 20}, {16, 20}, {19, 20}, {20, 20}};
        for (int[] edge : edges) {
            BladePairs x = till("down 2 0 " + edge[0] + " 0;up 2 0 " + edge[0] + " 0;", "grind down 0;grind up 0;grind down 0;", 2);
            Check.due("EDGE " + edge[0] + " of a DOWN", x.state(0, 0, 1, 10), edge[1]);
            Check.due("LENGTH of a DOWN", x.state(0, 0, 1, 20), 1);
            Check.due("the UP is as before", x.state(0, 0, 1, 40), edge[0]);
            Check.due("EDGE " + edge[0] + " of an UP", x.state(0, 0, 2, 40), edge[1]);
            Check.due("LENGTH of an UP", x.state(0, 0, 2, 50), 1);
        }
        till("down 1 0 0 0;up 1 0 0 0;", "grind down 0;", 0);
        till("down 1 0 0 0;up 1 0 0 0;", "grind up 0;", 0);
        BladePairs x = till("down 20 0 0 0;", "grind down 0;".repeat(20), 19);
        Check.due("LENGTH", x.state(0, 0, 19, 20), 1);
        Check.due("EDGE", x.state(0, 0, 19, 10), 20);
    }

    @Says(promise = 9, words = "grind: a BLADE in a PAIR whose DOWN is not hot, or in none")
    static void grindingOfHotOnes() {
        till(PAIR, "grind down 0;grind up 0;", 2);
        till(PAIR, "heat 0;grind down 0;", 1);
        till(PAIR, "heat 0;grind up 0;", 1);
        till(PAIR, "heat 0;grind down 1;grind up 1;", 3);
        till(PAIR, "heat 0;day;grind down 0;grind up 0;", 4);
        till(PAIR, "heat 0;part 0;grind down 0;grind up 0;", 4);
        till(PAIR, "heat 0;part 0;rivet 0 1;grind up 0;grind up 1;", 4);
        till(PAIR, "heat 0;part 0;rivet 0 1;grind down 0;", 3);
        till(PAIR, "rivet 1 1;heat 0;grind up 1;grind down 1;", 4);
        // the UP's number is another one than her DOWN's
        String crossed = Edges.alike(2, 2) + Edges.rivets(1, 0);
        till(crossed, "heat 0;grind up 0;grind up 1;", 2);
    }

    @Says(promise = 9, words = "A DEED can't be, if there is no such BLADE, CLOTH, or it is not as said.")
    static void noSuchBladeOrCloth() {
        for (int size = 0; size <= 6; size++) {
            String forge = "down 5 0 0 0;".repeat(size) + "up 5 0 0 0;".repeat(6 - size);
            for (int i = 0; i < 6; i++) {
                till(forge, "grind down " + i + ";", i < size ? 1 : 0);
                till(forge, "grind up " + i + ";", i < 6 - size ? 1 : 0);
                till(forge, "oil " + i + ";", i < size ? 1 : 0);
                till(forge, "rivet " + i + " 0;", i < size && size < 6 ? 1 : 0);
                till(forge, "rivet 0 " + i + ";", i < 6 - size && size > 0 ? 1 : 0);
            }
        }
    }

    @Says(promise = 10, words = "oil: a DOWN: he, and the UP with whom he is a PAIR then, are oiled till the day ends.")
    static void oilLastsTillTheDayEnds() {
        String forge = "down 5 0 9 0;down 5 0 9 0;up 5 0 9 0;up 5 0 9 0;rivet 0 0;";
        BladePairs x = till(forge, "oil 0;oil 0;day;day;", 4);
        int[] bits = {0, 1, 1, 0, 0};
        int[] edges = {9, 9, 9, 9, 8};
        for (int n = 0; n <= 4; n++) {
            Check.due("oiled behind " + n, x.state(0, 0, n, 4), bits[n]);
            Check.due("EDGE of DOWN 0 behind " + n, x.state(0, 0, n, 10), edges[n]);
            Check.due("EDGE of UP 0 behind " + n, x.state(0, 0, n, 40), edges[n]);
        }
        Check.due("DOWN 1 rusts", x.state(0, 0, 3, 11), 8);
        Check.due("UP 1 rusts", x.state(0, 0, 3, 41), 8);
        // with whom he is then: not later, and still so if he is parted
        x = till(forge, "oil 1;rivet 1 1;day;", 3);
        Check.due("oiled in no PAIR", x.state(0, 0, 3, 11), 9);
        Check.due("riveted behind it", x.state(0, 0, 3, 41), 8);
        x = till(forge, "oil 0;heat 0;part 0;day;", 4);
        Check.due("he is oiled, though parted", x.state(0, 0, 4, 10), 9);
        Check.due("she is oiled, though parted", x.state(0, 0, 4, 40), 9);
        x = till(forge, "heat 0;oil 0;", 2);
        Check.due("oiled, though hot", x.state(0, 0, 2, 4), 1);
        x = till(Edges.alike(6, 0), "oil 5;oil 0;oil 1;oil 2;oil 3;oil 4;day;", 7);
        int[] all = {0, 32, 33, 35, 39, 47, 63, 0};
        for (int n = 0; n < all.length; n++) {
            Check.due("oiled behind " + n, x.state(0, 0, n, 4), all[n]);
        }
    }

    @Says(promise = {9, 10}, words = {"all BLADES that have not WORKED and are not oiled RUST: EDGE is 1 less, 0 at least; the next day.",
        "day (up to 99)"})
    static void rustDownTo0() {
        String forge = "down 5 0 1 0;up 5 0 2 0;down 5 0 0 0;up 5 0 20 0;rivet 1 1;cloth 1 1 0;";
        BladePairs x = till(forge, "day;day;day;", 3);
        int[][] due = {{1, 0, 2, 20}, {0, 0, 1, 19}, {0, 0, 0, 18}, {0, 0, 0, 17}};
        for (int n = 0; n <= 3; n++) {
            Check.due("day", x.state(0, 0, n, 0), n);
            Check.due("DOWN 0 behind " + n, x.state(0, 0, n, 10), due[n][0]);
            Check.due("DOWN 1 behind " + n, x.state(0, 0, n, 11), due[n][1]);
            Check.due("UP 0 behind " + n, x.state(0, 0, n, 40), due[n][2]);
            Check.due("UP 1 behind " + n, x.state(0, 0, n, 41), due[n][3]);
        }
        // who has WORKED does not rust that day, but the next
        x = till(forge, "cut 1 0;day;day;", 3);
        Check.due("behind the cut", x.state(0, 0, 1, 41), 19);
        Check.due("behind the day", x.state(0, 0, 2, 41), 19);
        Check.due("behind the next", x.state(0, 0, 3, 41), 18);
        Check.due("who has not worked", x.state(0, 0, 2, 40), 1);
        // the DOWN likewise
        x = till("down 5 0 9 0;down 5 0 9 0;up 5 0 0 0;rivet 0 0;cloth 1 1 0;", "cut 0 0;day;day;cut 0 0;day;", 5);
        int[] worked = {9, 8, 8, 7, 6, 6};
        int[] idle = {9, 9, 8, 7, 7, 6};
        for (int n = 0; n <= 5; n++) {
            Check.due("who works, behind " + n, x.state(0, 0, n, 10), worked[n]);
            Check.due("who does not, behind " + n, x.state(0, 0, n, 11), idle[n]);
        }
        // who has WORKED, and is parted then
        x = till(forge, "cut 1 0;heat 1;part 1;day;", 4);
        Check.due("she has WORKED, though parted", x.state(0, 0, 4, 41), 19);
        // 99 is farther than DEEDS and draws can go
        x = till("", "day;".repeat(40), 40);
        Check.due("the last day", x.state(0, 0, 40, 0), 40);
    }

    @Says(promise = 10, words = "A YEAR of a FORGE begins on day 0 with all as told, no BLADE oiled, none hot.")
    static void aYearBeginsWithAllAsTold() {
        BladePairs x = Edges.year(PAIR, "heat 0;part 0;oil 1;grind down 1;day;rivet 1 1;");
        // whatever was asked before
        for (int n : new int[] {6, 0, 3, 0}) {
            Check.due("there is one behind " + n, x.state(0, 0, n, 0) >= 0, true);
            int[] begins = {0, 0, 0, 0, 0, -2};
            for (int what = 0; what < begins.length; what++) {
                Check.due("what " + what, x.state(0, 0, 0, what), begins[what]);
            }
            Check.due("EDGE", x.state(0, 0, 0, 11), 0);
            Check.due("LENGTH", x.state(0, 0, 0, 21), 5);
            Check.due("with whom", x.state(0, 0, 0, 30), 0);
            Check.due("in none", x.state(0, 0, 0, 31), NONE);
        }
        Check.due("the FORGE is as told", x.forge(0, 11) * 100 + x.forge(0, 31) * 10 + x.forge(0, 50), 500);
    }

    /** What state() and drawn() are to answer for 0 to 79 of BLADES 5 0 3 0, none in a PAIR. */
    private static int[] states(int downs, int ups) {
        int[] due = new int[80];
        Arrays.fill(due, -2);
        Arrays.fill(due, 0, 5, 0);
        for (int i = 0; i < 6; i++) {
            due[10 + i] = i < downs ? 3 : -2;
            due[20 + i] = i < downs ? 5 : -2;
            due[30 + i] = i < downs ? NONE : -2;
            due[40 + i] = i < ups ? 3 : -2;
            due[50 + i] = i < ups ? 5 : -2;
        }
        return due;
    }

    @Says(promise = 10, words = {"-2: there is no such STATE, or for another what.",
        "Of a STATE, what 0: the day, 1: EARNED, 2: how many cuts, 3, 4: who are hot, oiled of DOWNS (bits), 10 + d, 20 + d, 30 + d: "
        + "EDGE, LENGTH of a DOWN, with whom he is (NONE), 40 + u, 50 + u: EDGE, LENGTH of an UP."})
    static void everyWhatOfAState() {
        for (int size = 0; size <= 6; size++) {
            BladePairs x = Edges.year("down 5 0 3 0;".repeat(size) + "up 5 0 3 0;".repeat(6 - size), "day;");
            int[] due = states(size, 6 - size);
            for (int what = 0; what < due.length; what++) {
                Check.due("state what " + what, x.state(0, 0, 0, what), due[what]);
                Check.due("drawn what " + what, x.drawn(0, 1, 0, what), due[what]);
            }
            for (int what : new int[] {Integer.MIN_VALUE, -10, -1, 100, Integer.MAX_VALUE}) {
                Check.due("state what " + what, x.state(0, 0, 0, what), -2);
                Check.due("drawn what " + what, x.drawn(0, 1, 0, what), -2);
            }
        }
    }

    @Says(promise = 10, words = "-2: there is no such STATE, or for another what.")
    static void statesThatAreNotThere() {
        BladePairs x = new BladePairs();
        Check.due("nothing told", x.state(0, 0, 0, 0), -2);
        Check.tell(x, 1, NONE, "");
        Check.due("no FORGE told", x.state(0, 0, 0, 0), -2);
        x = Check.forge("");
        Check.due("no YEAR told", x.state(0, 0, 0, 0), -2);
        Check.tell(x, 1, NONE, "day;oil 0;day;");
        for (int n : Edges.beyond(0, 0)) {
            Check.due("FORGE " + n, x.state(n, 0, 0, 0), -2);
            Check.due("YEAR " + n, x.state(0, n, 0, 0), -2);
        }
        int[] due = {0, 1, -2, -2, -2};
        for (int n = 0; n < due.length; n++) {
            Check.due("n " + n, x.state(0, 0, n, 0), due[n]);
        }
        for (int n : Edges.beyond(0, 1)) {
            Check.due("n " + n, x.state(0, 0, n, 0), -2);
        }
    }

    @Says(promise = 21, words = {"n times, 0 to 60", "-2: there is none such, another n, or for another what."})
    static void drawn0To60Times() {
        BladePairs x = Check.forge("down 5 0 3 0;");
        for (int n : Edges.beyond(0, 60)) {
            Check.due("n " + n, x.drawn(0, 7, n, 0), -2);
        }
        for (int f : Edges.beyond(0, 0)) {
            Check.due("FORGE " + f, x.drawn(f, 7, 0, 0), -2);
        }
        Check.due("nothing told", new BladePairs().drawn(0, 7, 0, 0), -2);
        for (int seed : new int[] {0, 1, -1, Integer.MIN_VALUE, Integer.MAX_VALUE}) {
            int days = 0;
            for (int n = 0; n <= 60; n++) {
                days += n > 0 && numberOf(seed, n) == 7 ? 1 : 0;
                Check.due("day behind " + n + " by " + seed, x.drawn(0, seed, n, 0), days);
            }
        }
    }

    /** The number below 8 of the n-th time, if two numbers are drawn each time. */
    private static int numberOf(int seed, int n) {
        long x = seed & 0xffffffffL;
        for (int i = 0; i < 2 * n; i++) {
            x = (x * 1103515245L + 12345L) % 0x100000000L;
        }
        return (int) (x / 65536 % 8);
    }

    @Says(promise = 21, words = "(Without DOWNS nothing is drawn; where there are no UPS, no CLOTHS to draw from, that number is not "
        + "drawn, nothing is done.)")
    static void whereThereIsNothingToDrawFrom() {
        BladePairs x = Check.forge("up 5 0 9 0;cloth 1 1 0;");
        Check.due("day without DOWNS", x.drawn(0, 29, 60, 0), 0);
        Check.due("EDGE without DOWNS", x.drawn(0, 29, 60, 40), 9);
        // by seed 20: 9086, 2192 (0: rivet), 45270, 28391 (7: day), 30276 (4: cut)
        x = Check.forge("down 5 0 3 0;");
        Check.due("no UPS: the second time is a day", x.drawn(0, 20, 2, 0), 1);
        x = Check.forge("down 5 0 3 0;up 5 0 3 0;");
        Check.due("an UP is drawn: riveted", x.drawn(0, 20, 1, 30), 0);
        Check.due("the second time is a cut", x.drawn(0, 20, 2, 0), 0);
        // by seed 9: 20472, 43923 (3: cut), 11119, 13471 (7: day), 22102 (6: oil)
        x = Check.forge("down 5 0 3 0;up 5 0 3 0;rivet 0 0;");
        Check.due("no CLOTHS: the second time is a day", x.drawn(0, 9, 2, 0), 1);
        x = Check.forge("down 5 0 3 0;up 5 0 3 0;rivet 0 0;cloth 36 4 0;");
        Check.due("a CLOTH is drawn: cut", x.drawn(0, 9, 1, 1), 4);
        Check.due("the second time is oil", x.drawn(0, 9, 2, 4), 1);
        Check.due("and no day", x.drawn(0, 9, 2, 0), 0);
    }

    @Says(promise = 21, words = "x becomes x * 1103515245 + 12345 (of 32 bits), it is x shifted right by 16 without sign, remainder by n")
    static void numbersOfTheFarthestSeeds() {
        String pair = "down 5 0 3 0;up 5 0 3 0;rivet 0 0;cloth 36 4 0;";
        BladePairs x = Check.forge(pair);
        // seed -1: 48697, 4409 (1: heat); the farthest ones: 15929, 37177 (1: heat), 32768, 21468 (4: cut); 0: 0, 54236 (4: cut)
        Check.due("seed -1", x.drawn(0, -1, 1, 3), 1);
        Check.due("the greatest", x.drawn(0, Integer.MAX_VALUE, 1, 3), 1);
        Check.due("the least", x.drawn(0, Integer.MIN_VALUE, 1, 1), 4);
        Check.due("seed 0", x.drawn(0, 0, 1, 1), 4);
        Check.due("seed 0 works the same twice", x.drawn(0, 0, 1, 1), 4);
        // the last of six: seed 17: 24107 (5), 49320 (0: rivet), 12125 (5)
        x = Check.forge(Edges.alike(6, 6));
        Check.due("DOWN 5 with UP 5", x.drawn(0, 17, 1, 35), 5);
        // and seed 32: 14537 (5), 10287 (7: day)
        Check.due("day", x.drawn(0, 32, 1, 0), 1);
        Check.due("n 0", x.drawn(0, 32, 0, 0), 0);
    }

    @Says(promise = 21, words = "each, if it may")
    static void whatMayNotBeIsNotDone() {
        // seed -1: heat; seed 30: 46397, .. (2: part); seed 28: (4: cut), 13: (5: grind)
        BladePairs alone = Check.forge("down 1 0 3 0;up 5 0 3 0;cloth 1 4 0;");
        Check.due("heat of one in no PAIR", alone.drawn(0, -1, 1, 3), 0);
        Check.due("cut by one in no PAIR", alone.drawn(0, 28, 1, 2), 0);
        Check.due("grind at LENGTH 1", alone.drawn(0, 13, 1, 10), 3);
        BladePairs pair = Check.forge("down 2 0 3 0;up 2 0 3 0;cloth 36 4 0;rivet 0 0;");
        Check.due("heat", pair.drawn(0, -1, 1, 3), 1);
        Check.due("part of one who is not hot", pair.drawn(0, 30, 1, 30), 0);
        // seed 2: 22817 (1: heat), 45682 (2: part), 27095 (7: day)
        Check.due("a PAIR behind heat", pair.drawn(0, 2, 1, 30), 0);
        Check.due("none behind part", pair.drawn(0, 2, 2, 30), NONE);
        Check.due("hot still", pair.drawn(0, 2, 2, 3), 1);
        Check.due("hot no more", pair.drawn(0, 2, 3, 3), 0);
        Check.due("cut", pair.drawn(0, 28, 1, 2), 1);
        Check.due("grind", pair.drawn(0, 13, 1, 10), 8);
        Check.due("LENGTH", pair.drawn(0, 13, 1, 20), 1);
        // seed 8: 3634, 59632 (0: rivet), 43762: both in a PAIR
        BladePairs two = Check.forge("down 2 0 3 0;up 2 0 3 0;up 2 0 3 0;rivet 0 1;");
        Check.due("rivet of one in a PAIR", two.drawn(0, 8, 1, 30), 1);
        BladePairs hard = Check.forge("down 2 0 3 0;up 2 0 3 0;cloth 37 4 0;rivet 0 0;");
        Check.due("cut of what is too hard", hard.drawn(0, 28, 1, 2), 0);
    }
}

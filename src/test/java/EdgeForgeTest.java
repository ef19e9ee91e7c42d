import java.util.Arrays;

/** The edges of promises 6, 7 and 26 to 29: what is told of a FORGE, FIT and POWER, LONE, RANK, TRUE, TIPS. */
public final class EdgeForgeTest {
    private static final int NONE = BladePairs.NONE;
    private static final int[][] DOWNS = {{20, 3, 20, 1}, {1, 0, 0, 0}, {5, 1, 7, 0}, {9, 2, 3, 1}, {13, 0, 11, 0}, {17, 3, 15, 1}};
    private static final int[][] UPS = {{1, 0, 0, 0}, {20, 3, 20, 1}, {6, 2, 8, 1}, {10, 1, 4, 0}, {14, 3, 12, 1}, {18, 0, 16, 0}};
    private static final int[][] CLOTHS = {{70, 20, 9}, {1, 0, 0}, {30, 5, 4}, {31, 6, 3}, {50, 11, 2}, {12, 1, 7}};

    public static void main(String[] args) {
        Edges.run(EdgeForgeTest.class);
    }

    private static String lines(String word, int[][] of, int n) {
        StringBuilder s = new StringBuilder();
        for (int i = 0; i < n; i++) {
            s.append(word);
            for (int number : of[i]) {
                s.append(' ').append(number);
            }
            s.append(';');
        }
        return s.toString();
    }

    private static String forge(int downs, int ups, int cloths) {
        return lines("down", DOWNS, downs) + lines("up", UPS, ups) + lines("cloth", CLOTHS, cloths);
    }

    /** What forge() is to answer for 0 to 159, the PAIRS being of these UPS by DOWNS. */
    private static int[] told(int downs, int ups, int cloths, int... pairs) {
        int[] told = new int[160];
        Arrays.fill(told, -2);
        told[0] = downs;
        told[1] = ups;
        told[2] = cloths;
        for (int k = 0; k < 4; k++) {
            for (int d = 0; d < downs; d++) {
                told[10 * k + 10 + d] = DOWNS[d][k];
                told[50 + d] = d < pairs.length ? pairs[d] : NONE;
            }
            for (int u = 0; u < ups; u++) {
                told[10 * k + 60 + u] = UPS[u][k];
                told[100 + u] = NONE;
            }
            for (int c = 0; c < cloths && k < 3; c++) {
                told[10 * k + 110 + c] = CLOTHS[c][k];
            }
        }
        for (int d = 0; d < pairs.length; d++) {
            if (pairs[d] != NONE) {
                told[100 + pairs[d]] = d;
            }
        }
        return told;
    }

    private static void isTold(BladePairs x, int forge, int[] told) {
        for (int what = 0; what < told.length; what++) {
            Check.due("forge(" + forge + ", " + what + ")", x.forge(forge, what), told[what]);
        }
        for (int what : new int[] {-1, -2, -10, -50, Integer.MIN_VALUE, 1000, Integer.MAX_VALUE}) {
            Check.due("forge(" + forge + ", " + what + ")", x.forge(forge, what), -2);
        }
    }

    @Says(promise = 6, words = {"Of a FORGE, what 0: DOWNS, 1: UPS, 2: CLOTHS, 10 + d .. 40 + d by tens: LENGTH, STEEL, EDGE, "
        + "HAND of a DOWN, 50 + d: with whom he is a PAIR (NONE), 60 + u .. 90 + u: of an UP likewise, 100 + u: with whom she "
        + "is, 110 + c, 120 + c, 130 + c: HARD, PRICE, DAY of a CLOTH.", "-2: there is none such (of any), or for another what."})
    static void everyWhatOfFewAndMany() {
        for (int n = 0; n <= 6; n++) {
            isTold(Check.forge(forge(n, 0, 0)), 0, told(n, 0, 0));
            isTold(Check.forge(forge(0, n, 0)), 0, told(0, n, 0));
            isTold(Check.forge(forge(0, 0, n)), 0, told(0, 0, n));
            isTold(Check.forge(forge(n, 6 - n, n)), 0, told(n, 6 - n, n));
        }
        isTold(Check.forge(forge(6, 6, 6) + Edges.rivets(5, 4, NONE, 2, 1, 0)), 0, told(6, 6, 6, 5, 4, NONE, 2, 1, 0));
    }

    @Says(promise = 6, words = "-2: there is none such (of any), or for another what.")
    static void forgesThatAreNotThere() {
        BladePairs x = new BladePairs();
        for (int told = 0; told <= 2; told++) {
            for (int f : new int[] {Integer.MIN_VALUE, -2, -1, told, told + 1, 2, 3, Integer.MAX_VALUE}) {
                for (int what : new int[] {0, 10, 110}) {
                    Check.due("forge(" + f + ", " + what + ") of " + told, x.forge(f, what), -2);
                }
            }
            for (int f = 0; f < told; f++) {
                Check.due("forge(" + f + ", 0) of " + told, x.forge(f, 0), 6 - f);
                Check.due("forge(" + f + ", 2) of " + told, x.forge(f, 2), f);
            }
            Check.tell(x, 0, NONE, forge(6 - told, 0, told));
        }
    }

    @Says(promise = 6, words = "PAIRS of a DOWN and an UP (none at first, each BLADE in one at most)")
    static void noPairsAtFirst() {
        isTold(Check.forge(forge(6, 6, 0)), 0, told(6, 6, 0));
    }

    @Says(promise = 6, words = "they are a PAIR, those with whom they were are in none")
    static void eachBladeIsInOnePairAtMost() {
        // told twice
        isTold(Check.forge(forge(2, 2, 0) + "rivet 0 1;rivet 0 1;"), 0, told(2, 2, 0, 1));
        // he was with another one
        isTold(Check.forge(forge(2, 2, 0) + "rivet 0 1;rivet 0 0;"), 0, told(2, 2, 0, 0));
        // she was with another one
        isTold(Check.forge(forge(2, 2, 0) + "rivet 0 1;rivet 1 1;"), 0, told(2, 2, 0, NONE, 1));
        // both were with others
        isTold(Check.forge(forge(2, 2, 0) + "rivet 0 0;rivet 1 1;rivet 0 1;"), 0, told(2, 2, 0, 1, NONE));
        // and those with whom they were are riveted again
        isTold(Check.forge("rivet 0 0;rivet 1 1;rivet 0 1;rivet 1 0;" + forge(2, 2, 0)), 0, told(2, 2, 0, 1, 0));
        isTold(Check.forge("rivet 5 5;rivet 5 0;rivet 0 5;" + forge(6, 6, 0)), 0,
                told(6, 6, 0, 5, NONE, NONE, NONE, NONE, 0));
    }

    private static void fit(String down, String up, int fit, int power) {
        BladePairs x = Check.forge("down " + down + ";up " + up + ";");
        Check.due("FIT of " + down + " and " + up, x.fit(0, 0, 0, false), fit);
        Check.due("POWER of " + down + " and " + up, x.fit(0, 0, 0, true), power);
        // the same from the other side
        x = Check.forge("down " + up + ";up " + down + ";");
        Check.due("FIT of " + up + " and " + down, x.fit(0, 0, 0, false), fit);
        Check.due("POWER of " + up + " and " + down, x.fit(0, 0, 0, true), power);
    }

    @Says(promise = 7, words = "30, less 2 for each LENGTH they differ by, less 5 for each STEEL, less 12, if their HANDS are "
        + "unlike; 0 at least.")
    static void fitIs0AtLeastAnd30AtMost() {
        fit("7 2 0 1", "7 2 0 1", 30, 30);
        fit("1 0 0 0", "2 0 0 0", 28, 28);
        fit("1 0 0 0", "1 1 0 0", 25, 25);
        fit("1 0 0 0", "1 0 0 1", 18, 18);
        fit("1 0 0 0", "1 3 0 1", 3, 3);
        fit("1 0 0 0", "2 3 0 1", 1, 1);
        fit("1 0 0 0", "3 3 0 1", 0, 0);
        fit("1 0 0 0", "15 0 0 0", 2, 2);
        fit("1 0 0 0", "16 0 0 0", 0, 0);
        fit("1 0 0 0", "17 0 0 0", 0, 0);
        fit("1 0 0 0", "13 1 0 0", 1, 1);
        fit("1 0 0 0", "14 1 0 0", 0, 0);
        fit("1 0 0 0", "20 3 0 1", 0, 0);
    }

    @Says(promise = 7, words = "POWER: FIT and both EDGES together.")
    static void powerOfTheLeastAndTheMost() {
        fit("1 0 0 0", "20 3 0 1", 0, 0);
        fit("1 0 20 0", "20 3 20 1", 0, 40);
        fit("1 0 1 0", "20 3 0 1", 0, 1);
        fit("7 2 20 1", "7 2 20 1", 30, 70);
        fit("7 2 20 1", "7 2 0 1", 30, 50);
        fit("7 2 0 1", "7 2 3 1", 30, 33);
    }

    @Says(promise = 7, words = "NONE: there is none such (of any).")
    static void fitOfNoSuchBlades() {
        int[][] sizes = {{0, 0}, {0, 6}, {6, 0}, {1, 1}, {2, 5}, {5, 2}, {6, 6}};
        for (int[] size : sizes) {
            BladePairs x = Check.forge(Edges.alike(size[0], size[1]));
            for (boolean power : new boolean[] {false, true}) {
                for (int f : Edges.beyond(0, 0)) {
                    Check.due("FORGE " + f, x.fit(f, 0, 0, power), NONE);
                }
                for (int d = -2; d <= 7; d++) {
                    for (int u = -2; u <= 7; u++) {
                        boolean there = d >= 0 && d < size[0] && u >= 0 && u < size[1];
                        Check.due("fit(0, " + d + ", " + u + ")", x.fit(0, d, u, power), there ? 30 : NONE);
                    }
                }
                for (int far : new int[] {Integer.MIN_VALUE, Integer.MAX_VALUE}) {
                    Check.due("DOWN " + far, x.fit(0, far, 0, power), NONE);
                    Check.due("UP " + far, x.fit(0, 0, far, power), NONE);
                }
            }
        }
        Check.due("nothing told", new BladePairs().fit(0, 0, 0, false), NONE);
    }

    private static void lone(String forge, int due) {
        Check.due("LONE of " + forge, Check.forge(forge).lone(0), due);
    }

    @Says(promise = 26, words = "NONE: by none, or there is none such.")
    static void loneByNone() {
        lone("", NONE);
        lone(Edges.alike(6, 0), NONE);
        lone(Edges.alike(0, 6), NONE);
        lone(Edges.alike(1, 1) + "rivet 0 0;", NONE);
        lone(Edges.alike(2, 1) + "rivet 0 0;", NONE);
        lone(Edges.alike(1, 2) + "rivet 0 1;", NONE);
        lone(Edges.alike(6, 6) + Edges.rivets(5, 4, 3, 2, 1, 0), NONE);
        BladePairs x = Check.forge(Edges.alike(1, 1));
        for (int f : Edges.beyond(0, 0)) {
            Check.due("lone(" + f + ")", x.lone(f), NONE);
        }
        Check.due("lone(0)", x.lone(0), 0);
        Check.due("nothing told", new BladePairs().lone(0), NONE);
    }

    @Says(promise = 26, words = "LONE: the DOWN and the UP in no PAIR whose FIT is greatest, of several the first by numbers "
        + "(6 times the DOWN, and the UP).")
    static void loneOfSeveral() {
        lone(Edges.alike(6, 6), 0);
        // the last ones
        lone(Edges.alike(6, 6) + Edges.rivets(0, 1, 2, 3, 4), 35);
        lone(Edges.alike(6, 6) + Edges.rivets(5, 1, 2, 3, 4), 30);
        lone(Edges.alike(6, 6) + Edges.rivets(NONE, 0, 1, 2, 3, 4), 5);
        // of like FITS by DOWN, then by UP
        lone("down 5 0 0 0;down 9 0 0 0;up 10 0 0 0;up 6 0 0 0;", 1);
        lone("down 9 0 0 0;down 9 0 0 0;up 8 0 0 0;up 10 0 0 0;", 0);
        // the greatest, wherever it is
        lone("down 9 0 0 0;down 9 1 0 0;up 8 0 0 0;up 9 1 0 0;", 7);
        lone("down 9 0 0 0;down 9 1 0 0;up 8 1 0 0;up 9 0 0 0;up 9 1 0 0;rivet 0 1;", 8);
        // FIT 0 is one, too
        lone("down 1 0 0 0;up 20 0 0 0;", 0);
        lone("down 1 0 0 0;down 1 0 0 0;up 20 0 0 0;up 20 0 0 0;rivet 0 0;", 7);
        // those in PAIRS fit better, but are not alone
        lone("down 5 0 0 0;down 1 3 0 1;up 5 0 0 0;up 20 0 0 0;rivet 0 0;", 7);
    }

    @Says(promise = 27, words = "NONE: not so many PAIRS, or there is none such.")
    static void rankOfNotSoManyPairs() {
        for (int pairs = 0; pairs <= 6; pairs++) {
            int[] ups = new int[pairs];
            for (int d = 0; d < pairs; d++) {
                ups[d] = pairs - 1 - d;
            }
            BladePairs x = Check.forge(Edges.alike(6, 6) + Edges.rivets(ups));
            for (int k = 0; k < pairs; k++) {
                Check.due("rank " + k + " of " + pairs, x.rank(0, k), k);
            }
            for (int k : Edges.beyond(0, pairs - 1)) {
                Check.due("rank " + k + " of " + pairs, x.rank(0, k), NONE);
            }
            for (int f : Edges.beyond(0, 0)) {
                Check.due("FORGE " + f, x.rank(f, 0), NONE);
            }
        }
        Check.due("no BLADES", Check.forge("").rank(0, 0), NONE);
        Check.due("nothing told", new BladePairs().rank(0, 0), NONE);
    }

    @Says(promise = 27, words = "RANK of k: the k-th PAIR (its DOWN), from 0 on, by POWER, the greatest first, of like ones the "
        + "least number first.")
    static void rankOfLikePower() {
        // POWERS 31, 33, 31, in no PAIR, 32, 33
        BladePairs x = Check.forge("down 5 0 1 0;down 5 0 3 0;down 5 0 0 0;down 5 0 20 0;down 5 0 2 0;down 5 0 0 0;"
                + "up 5 0 0 0;up 5 0 0 0;up 5 0 1 0;up 5 0 0 0;up 5 0 3 0;up 5 0 20 0;" + Edges.rivets(0, 1, 2, NONE, 3, 4));
        int[] due = {1, 5, 4, 0, 2, NONE};
        for (int k = 0; k < due.length; k++) {
            Check.due("rank " + k, x.rank(0, k), due[k]);
        }
    }

    private static void trued(String down, String up, int often, int fit) {
        BladePairs x = Check.forge("down " + down + ";up " + up + ";");
        Check.due("how often, " + down + " and " + up, x.trued(0, 0, 0, false), often);
        Check.due("that FIT, " + down + " and " + up, x.trued(0, 0, 0, true), fit);
        x = Check.forge("down " + up + ";up " + down + ";");
        Check.due("how often, " + up + " and " + down, x.trued(0, 0, 0, false), often);
        Check.due("that FIT, " + up + " and " + down, x.trued(0, 0, 0, true), fit);
    }

    @Says(promise = 28, words = "TRUE of a DOWN and an UP: how often the longer one is to be ground (each time LENGTH is 1 less) "
        + "so that their FIT is the greatest there can be by that; that FIT.")
    static void truedNotAtAllAndAsOftenAsCanBe() {
        trued("5 0 0 0", "5 0 0 0", 0, 30);
        trued("5 0 0 0", "6 0 0 0", 1, 30);
        trued("1 0 20 0", "20 0 20 0", 19, 30);
        trued("1 0 0 0", "20 3 0 1", 19, 3);
        trued("20 0 0 0", "20 3 0 1", 0, 3);
        trued("1 3 0 0", "1 0 0 0", 0, 15);
        trued("1 1 0 0", "2 0 0 1", 1, 13);
    }

    @Says(promise = 28, words = "NONE: there is none such (of any).")
    static void truedOfNoSuchBlades() {
        int[][] sizes = {{0, 0}, {0, 6}, {6, 0}, {1, 1}, {2, 5}, {5, 2}, {6, 6}};
        for (int[] size : sizes) {
            BladePairs x = Check.forge(Edges.alike(size[0], size[1]));
            for (int f : Edges.beyond(0, 0)) {
                Check.due("FORGE " + f, x.trued(f, 0, 0, false), NONE);
                Check.due("FORGE " + f, x.trued(f, 0, 0, true), NONE);
            }
            for (int d = -2; d <= 7; d++) {
                for (int u = -2; u <= 7; u++) {
                    boolean there = d >= 0 && d < size[0] && u >= 0 && u < size[1];
                    Check.due("trued(0, " + d + ", " + u + ")", x.trued(0, d, u, false), there ? 0 : NONE);
                    Check.due("trued best(0, " + d + ", " + u + ")", x.trued(0, d, u, true), there ? 30 : NONE);
                }
            }
            for (int far : new int[] {Integer.MIN_VALUE, Integer.MAX_VALUE}) {
                Check.due("DOWN " + far, x.trued(0, far, 0, false), NONE);
                Check.due("UP " + far, x.trued(0, 0, far, true), NONE);
            }
        }
        Check.due("nothing told", new BladePairs().trued(0, 0, 0, false), NONE);
    }

    @Says(promise = 29, words = {"TIPS: how many PAIRS are of like LENGTH.", "NONE: there is none such."})
    static void tipsOfNoPairAndOfAll() {
        Check.due("no BLADES", Check.forge("").tips(0), 0);
        Check.due("no PAIRS", Check.forge(Edges.alike(6, 6)).tips(0), 0);
        Check.due("all", Check.forge(Edges.alike(6, 6) + Edges.rivets(5, 4, 3, 2, 1, 0)).tips(0), 6);
        Check.due("all but one", Check.forge(Edges.alike(6, 6) + Edges.rivets(5, 4, 3, NONE, 1, 0)).tips(0), 5);
        Check.due("1 longer, 1 shorter", Check.forge("down 5 0 0 0;down 5 0 0 0;up 4 0 0 0;up 6 0 0 0;"
                + Edges.rivets(0, 1)).tips(0), 0);
        Check.due("of unlike STEEL, EDGE, HAND", Check.forge("down 5 0 0 0;up 5 3 20 1;rivet 0 0;").tips(0), 1);
        BladePairs x = Check.forge(Edges.alike(1, 1) + "rivet 0 0;");
        for (int f : Edges.beyond(0, 0)) {
            Check.due("FORGE " + f, x.tips(f), NONE);
        }
        Check.due("nothing told", new BladePairs().tips(0), NONE);
    }
}

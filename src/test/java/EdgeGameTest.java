import java.util.Arrays;

/** The edges of promises 16 to 18: GRIND, MOMENT, TAILORS. */
public final class EdgeGameTest {
    private static final int NONE = BladePairs.NONE;

    public static void main(String[] args) {
        Edges.run(EdgeGameTest.class);
    }

    private static void grind(int n, int edge, int most, int first) {
        BladePairs x = new BladePairs();
        Check.due("grind(" + n + ", " + edge + ")", x.grind(n, edge, false), most);
        Check.due("first of grind(" + n + ", " + edge + ")", x.grind(n, edge, true), first);
    }

    @Says(promise = 16, words = {"GRIND of n days, 0 .. 30, an EDGE", "-2: other numbers."})
    static void grindOfOtherNumbers() {
        BladePairs x = new BladePairs();
        for (boolean first : new boolean[] {false, true}) {
            for (int n : Edges.beyond(0, 30)) {
                for (int edge : new int[] {0, 20}) {
                    Check.due("grind(" + n + ", " + edge + ")", x.grind(n, edge, first), -2);
                }
            }
            for (int edge : Edges.beyond(0, 20)) {
                for (int n : new int[] {0, 1, 30}) {
                    Check.due("grind(" + n + ", " + edge + ")", x.grind(n, edge, first), -2);
                }
            }
        }
        for (int edge : new int[] {0, 20}) {
            grind(0, edge, 0, NONE);
            grind(1, edge, edge, NONE);
        }
    }

    @Says(promise = 16, words = "each day one cuts and earns what EDGE there is, it is 1 less then (0 at least), or grinds, it is 5 more then, 20 "
        + "at most: the most earned")
    static void grindAtTheLeastAndTheMostEdge() {
        // 0 at least: one cuts for nothing, and has EDGE 0 still
        grind(1, 0, 0, NONE);
        // grinds, 5
        grind(2, 0, 5, 0);
        // grinds twice, 10, which is more than 5, 4
        grind(3, 0, 10, 0);
        // grinds twice, 10, 9
        grind(4, 0, 19, 0);
        // 20, 19
        grind(2, 20, 39, NONE);
        // 16 and 15, 14, 13 cut; a grind from 16 makes 20, not 21: 20, 19, 18 is less than 16, 15, 14, 13
        grind(4, 16, 58, NONE);
        for (int n = 0; n <= 30; n++) {
            for (int edge : new int[] {0, 1, 14, 15, 16, 19, 20}) {
                int[] due = byAllWays(n, edge);
                grind(n, edge, due[0], due[1]);
            }
        }
    }

    /** By every EDGE and every first day on which one may have ground: the most, and the latest first day of those. */
    private static int[] byAllWays(int n, int edge) {
        int never = 31;
        int[][] most = new int[21][never + 1];
        for (int[] row : most) {
            Arrays.fill(row, -1);
        }
        most[edge][never] = 0;
        for (int day = 0; day < n; day++) {
            int[][] next = new int[21][never + 1];
            for (int[] row : next) {
                Arrays.fill(row, -1);
            }
            for (int e = 0; e <= 20; e++) {
                for (int first = 0; first <= never; first++) {
                    if (most[e][first] >= 0) {
                        int blunt = e == 0 ? 0 : e - 1;
                        int sharp = e > 15 ? 20 : e + 5;
                        int since = first == never ? day : first;
                        next[blunt][first] = Math.max(next[blunt][first], most[e][first] + e);
                        next[sharp][since] = Math.max(next[sharp][since], most[e][first]);
                    }
                }
            }
            most = next;
        }
        int[] best = {-1, NONE};
        for (int first = never; first >= 0; first--) {
            for (int e = 0; e <= 20; e++) {
                if (most[e][first] > best[0]) {
                    best = new int[] {most[e][first], first == never ? NONE : first};
                }
            }
        }
        return best;
    }

    @Says(promise = 16, words = {"the first day, from 0 on, on which one grinds, in that of all best ways by which it is latest (or never)",
        "GRIND: the most, or (first) the day (NONE: never)."})
    static void theLatestFirstDay() {
        // on the last day one cuts for 0, or grinds for nothing: never is the latest
        grind(1, 0, 0, NONE);
        // grinds three times, 20, 19, 18
        grind(6, 5, 57, 0);
        // 1 and 0 cut, or grind and 6: on day 0
        grind(2, 1, 6, 0);
        // cut 4 and 3, or grind and 9
        grind(2, 4, 9, 0);
        grind(2, 5, 10, 0);
        // cut 6 and 5, or grind and 11: alike, and so never
        grind(2, 6, 11, NONE);
        Check.due("NONE is not day 0", new BladePairs().grind(0, 0, true), NONE);
    }

    private static void moment(int w, int v, int n, long above, long below, long now) {
        BladePairs x = new BladePairs();
        String name = "moment(" + w + ", " + v + ", " + n + ")";
        Check.due(name + " N", x.moment(w, v, n, 0), above);
        Check.due(name + " D", x.moment(w, v, n, 1), below);
        Check.due(name + " now", x.moment(w, v, n, 2), now);
    }

    @Says(promise = 17, words = {"MOMENT of wear w, 0 .. 9, a worth v, 0 .. 9, n rags, 0 .. 9", "NONE: other numbers, or for another what."})
    static void momentOfOtherNumbers() {
        BladePairs x = new BladePairs();
        for (int what = 0; what <= 2; what++) {
            for (int other : Edges.beyond(0, 9)) {
                for (int good : new int[] {0, 9}) {
                    Check.due("w " + other, x.moment(other, good, good, what), NONE);
                    Check.due("v " + other, x.moment(good, other, good, what), NONE);
                    Check.due("n " + other, x.moment(good, good, other, what), NONE);
                }
            }
        }
        for (int what : Edges.beyond(0, 2)) {
            Check.due("what " + what, x.moment(0, 0, 0, what), NONE);
            Check.due("what " + what, x.moment(9, 9, 9, what), NONE);
        }
        moment(0, 0, 0, 0, 1, 1);
        moment(9, 0, 0, 0, 1, 1);
        moment(0, 9, 0, 9, 1, 1);
        moment(9, 9, 0, 90, 1, 1);
        moment(0, 0, 9, 0, 1, 1);
        moment(9, 9, 9, 90, 1, 1);
    }

    @Says(promise = 17, words = "by w of ten it breaks, and nothing is brought any more, else w is 1 more, 9 at most, and so on: the most in the mean, "
        + "a fraction in least terms")
    static void momentOfOneRagAndOfNine() {
        // w 0 never breaks: twice as much behind a rag
        moment(0, 1, 1, 2, 1, 0);
        moment(0, 9, 1, 18, 1, 0);
        // 9 of ten times 3; 8 of ten times 4; 7 of ten times 5 is less than 4
        moment(1, 1, 1, 27, 10, 0);
        moment(2, 1, 1, 16, 5, 0);
        moment(3, 1, 1, 4, 1, 1);
        moment(9, 1, 9, 10, 1, 1);
        moment(8, 9, 9, 81, 1, 1);
        // 0, 1, 2: as far as it pays, whether there are 3 rags or 9: 9 of ten times 16 of five
        moment(0, 1, 2, 27, 10, 0);
        moment(0, 1, 3, 72, 25, 0);
        moment(0, 1, 9, 72, 25, 0);
        moment(0, 5, 9, 72, 5, 0);
        moment(0, 9, 9, 648, 25, 0);
    }

    @Says(promise = 17, words = "whether one is to cut the best cloth now (also if both are alike)")
    static void momentIfBothAreAlike() {
        for (int w = 0; w <= 9; w++) {
            for (int n = 0; n <= 9; n++) {
                // 0 now, and 0 behind any rag
                moment(w, 0, n, 0, 1, 1);
            }
            moment(w, 7, 0, 7 * (w + 1), 1, 1);
        }
    }

    private static boolean rests(int p, int q, int c, int d) {
        for (int other = 0; other <= 20; other++) {
            int firstWins = p <= q ? p - c : 0;
            int firstOther = other <= q ? other - c : 0;
            int secondWins = q < p ? q - d : 0;
            int secondOther = other < p ? other - d : 0;
            if (firstOther > firstWins || secondOther > secondWins) {
                return false;
            }
        }
        return true;
    }

    @Says(promise = 18, words = {"RESTS of costs c, d: how many (k NONE), or the k-th; k -2: who sells in most (there being none: NONE).",
        "two call prices, 0 .. 20, for a cloth that costs one c, the other one d, 0 .. 20"})
    static void restsOfTheLeastAndTheMostCosts() {
        for (int[] costs : new int[][] {{0, 0}, {0, 20}, {20, 0}, {20, 20}, {0, 1}, {1, 0}, {19, 20}, {20, 19}, {10, 10}}) {
            BladePairs x = new BladePairs();
            int c = costs[0];
            int d = costs[1];
            int many = 0;
            int[] sells = {0, 0};
            for (int i = 0; i < 441; i++) {
                if (rests(i / 21, i % 21, c, d)) {
                    Check.due("rest(" + c + ", " + d + ", " + many + ")", x.rest(c, d, many), i);
                    many++;
                    sells[i / 21 <= i % 21 ? 0 : 1]++;
                }
            }
            Check.due("how many of " + c + ", " + d, x.rest(c, d, NONE), many);
            Check.due("one too many", x.rest(c, d, many), NONE);
            Check.due("who sells", x.rest(c, d, -2), many == 0 ? NONE : sells[1] > sells[0] ? 1 : 0);
            for (int k : new int[] {Integer.MIN_VALUE, -4, -3, 441, Integer.MAX_VALUE}) {
                Check.due("k " + k, x.rest(c, d, k), NONE);
            }
        }
    }

    @Says(promise = 18, words = "couples of calls (21 times the first's, and the second's) by which neither wins more by another one: how many; the k-th")
    static void restsOfOneCostBehindAnother() {
        int[][] costs = {{0, 0}, {20, 20}, {0, 20}, {20, 0}, {3, 17}, {17, 3}, {0, 0}};
        BladePairs x = new BladePairs();
        for (int[] cost : costs) {
            int many = new BladePairs().rest(cost[0], cost[1], NONE);
            Check.due("how many of " + cost[0] + ", " + cost[1], x.rest(cost[0], cost[1], NONE), many);
            for (int k = 0; k <= many && k < 30; k++) {
                Check.due("the " + k + "th", x.rest(cost[0], cost[1], k), new BladePairs().rest(cost[0], cost[1], k));
            }
            Check.due("who sells", x.rest(cost[0], cost[1], -2), new BladePairs().rest(cost[0], cost[1], -2));
        }
    }

    @Says(promise = 18, words = "NONE: there is none such, or other numbers.")
    static void restsOfOtherCosts() {
        BladePairs x = new BladePairs();
        for (int k : new int[] {-2, NONE, 0}) {
            for (int other : Edges.beyond(0, 20)) {
                for (int good : new int[] {0, 20}) {
                    Check.due("c " + other, x.rest(other, good, k), NONE);
                    Check.due("d " + other, x.rest(good, other, k), NONE);
                }
            }
        }
    }

    @Says(promise = 18, words = {"who calls less sells it (if both call the same, the first one)",
        "who sells in most of these (0 the first, 1 the second; 0, if both in as many)"})
    static void whoSells() {
        BladePairs x = new BladePairs();
        // costs 0: 0 and 0, 1 and 0, 1 and 1; the first sells in two of them
        Check.due("how many", x.rest(0, 0, NONE), 3);
        Check.due("0 and 0", x.rest(0, 0, 0), 0);
        Check.due("1 and 0", x.rest(0, 0, 1), 21);
        Check.due("1 and 1", x.rest(0, 0, 2), 22);
        Check.due("the first one", x.rest(0, 0, -2), 0);
        Check.due("the second is cheaper", x.rest(20, 0, -2), 1);
        Check.due("the first is cheaper", x.rest(0, 20, -2), 0);
        int alike = 0;
        for (int c = 0; c <= 20; c++) {
            for (int d = 0; d <= 20; d++) {
                int[] sells = {0, 0};
                for (int i = 0; i < 441; i++) {
                    if (rests(i / 21, i % 21, c, d)) {
                        sells[i / 21 <= i % 21 ? 0 : 1]++;
                    }
                }
                Check.due("there always are RESTS", sells[0] + sells[1] > 0, true);
                Check.due("who sells, costs " + c + ", " + d, new BladePairs().rest(c, d, -2), sells[1] > sells[0] ? 1 : 0);
                alike += sells[0] == sells[1] ? 1 : 0;
            }
        }
        Check.due("there are such costs", alike > 0, true);
    }
}

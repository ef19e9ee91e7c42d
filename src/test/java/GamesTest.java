import java.math.BigInteger;
import java.util.ArrayList;
import java.util.List;

/** Promises 16 to 18: when to grind, the last good moment, two tailors. */
public final class GamesTest {
    private static final int NONE = BladePairs.NONE;

    public static void main(String[] args) {
        grindByAllWays();
        grindByHand(new BladePairs());
        for (int n = 15; n <= 30; n++) {
            grindByOneDayLess(new BladePairs(), n);
        }
        momentByHand(new BladePairs());
        for (int w = 0; w < 10; w++) {
            momentByFractions(new BladePairs(), w);
        }
        restByHand(new BladePairs());
        restByAllCalls();
        Check.end();
    }

    /** Every way of cutting and grinding of up to 14 days. */
    private static void grindByAllWays() {
        for (int n = 0; n <= 14; n++) {
            BladePairs x = new BladePairs();
            for (int edge = 0; edge <= 20; edge++) {
                int most = -1;
                int first = -1;
                for (int way = 0; way < 1 << n; way++) {
                    int e = edge;
                    int earned = 0;
                    for (int day = 0; day < n; day++) {
                        boolean grinds = (way >> day & 1) == 1;
                        earned += grinds ? 0 : e;
                        e = grinds ? Math.min(20, e + 5) : Math.max(0, e - 1);
                    }
                    int begins = way == 0 ? 99 : Integer.numberOfTrailingZeros(way);
                    if (earned > most || (earned == most && begins > first)) {
                        most = earned;
                        first = begins;
                    }
                }
                Check.due("grind " + n + " " + edge, x.grind(n, edge, false), most);
                Check.due("first " + n + " " + edge, x.grind(n, edge, true), first == 99 ? NONE : first);
            }
        }
    }

    private static void grindByHand(BladePairs x) {
        Check.due("no day", x.grind(0, 20, false), 0);
        Check.due("no day", x.grind(0, 20, true), NONE);
        Check.due("one day", x.grind(1, 7, false), 7);
        Check.due("two days, EDGE 0", x.grind(2, 0, false), 5);
        Check.due("two days, EDGE 0", x.grind(2, 0, true), 0);
        Check.due("n 31", x.grind(31, 0, false), -2);
        Check.due("n -1", x.grind(-1, 0, false), -2);
        Check.due("EDGE 21", x.grind(3, 21, true), -2);
        Check.due("EDGE -1", x.grind(3, -1, true), -2);
        Check.due("n 30", x.grind(30, 20, false) > 0, true);
    }

    private static void grindByOneDayLess(BladePairs x, int n) {
        for (int edge = 0; edge <= 20; edge++) {
            int by = Math.max(edge + x.grind(n - 1, Math.max(0, edge - 1), false),
                    x.grind(n - 1, Math.min(20, edge + 5), false));
            Check.due("grind " + n + " " + edge, x.grind(n, edge, false), by);
            boolean cuts = edge + x.grind(n - 1, Math.max(0, edge - 1), false) == by;
            int later = cuts ? x.grind(n - 1, Math.max(0, edge - 1), true) : 0;
            Check.due("first " + n + " " + edge, x.grind(n, edge, true), !cuts ? 0 : later == NONE ? NONE : later + 1);
        }
    }

    private static void moment(BladePairs x, int w, int v, int n, long above, long below, int now) {
        String name = "moment " + w + " " + v + " " + n;
        Check.due(name + " N", x.moment(w, v, n, 0), above);
        Check.due(name + " D", x.moment(w, v, n, 1), below);
        Check.due(name + " now", x.moment(w, v, n, 2), now);
    }

    private static void momentByHand(BladePairs x) {
        // now: v times w and 1 more
        moment(x, 0, 0, 0, 0, 1, 1);
        moment(x, 0, 5, 0, 5, 1, 1);
        moment(x, 3, 2, 0, 8, 1, 1);
        moment(x, 9, 9, 0, 90, 1, 1);
        // one rag: w 0 never breaks, so 2 times 1 beats 1
        moment(x, 0, 1, 1, 2, 1, 0);
        // w 1: 2 now, or 9 of ten times 3
        moment(x, 1, 1, 1, 27, 10, 0);
        // w 2: 3 now, or 8 of ten times 4: 3.2
        moment(x, 2, 1, 1, 16, 5, 0);
        // w 3: 4 now, or 7 of ten times 5: 3.5
        moment(x, 3, 1, 9, 4, 1, 1);
        // w 1, two rags: 9 of ten times 3.2
        moment(x, 1, 1, 2, 72, 25, 0);
        moment(x, 4, 0, 9, 0, 1, 1);
        int[][] others = {{-1, 0, 0, 0}, {10, 0, 0, 0}, {0, -1, 0, 0}, {0, 10, 0, 0}, {0, 0, -1, 0}, {0, 0, 10, 0},
            {0, 0, 0, -1}, {0, 0, 0, 3}};
        for (int[] o : others) {
            Check.due("moment of other numbers", x.moment(o[0], o[1], o[2], o[3]), NONE);
        }
    }

    private static void momentByFractions(BladePairs x, int w) {
        for (int v = 0; v < 10; v++) {
            for (int n = 0; n < 10; n++) {
                BigInteger[] now = {BigInteger.valueOf(v * (w + 1)), BigInteger.ONE};
                BigInteger[] best = mean(w, v, n);
                boolean atOnce = now[0].multiply(best[1]).compareTo(best[0].multiply(now[1])) >= 0;
                moment(x, w, v, n, best[0].longValueExact(), best[1].longValueExact(), atOnce ? 1 : 0);
            }
        }
    }

    private static BigInteger[] mean(int w, int v, int n) {
        BigInteger[] now = {BigInteger.valueOf(v * (w + 1)), BigInteger.ONE};
        if (n == 0) {
            return now;
        }
        BigInteger[] then = mean(Math.min(9, w + 1), v, n - 1);
        BigInteger above = then[0].multiply(BigInteger.valueOf(10 - w));
        BigInteger below = then[1].multiply(BigInteger.TEN);
        BigInteger g = above.gcd(below);
        BigInteger[] later = {above.divide(g), below.divide(g)};
        boolean nowIsBest = now[0].multiply(later[1]).compareTo(later[0].multiply(now[1])) >= 0;
        return nowIsBest ? now : later;
    }

    private static void restByHand(BladePairs x) {
        // both cost 0: 0 and 0, 1 and 0 (nobody could win anything), 1 and 1 (the second can't call less and win)
        Check.due("rests", x.rest(0, 0, NONE), 3);
        Check.due("first", x.rest(0, 0, 0), 0);
        Check.due("second", x.rest(0, 0, 1), 21);
        Check.due("third", x.rest(0, 0, 2), 22);
        Check.due("fourth", x.rest(0, 0, 3), NONE);
        Check.due("who sells", x.rest(0, 0, -2), 0);
        Check.due("k -3", x.rest(0, 0, -3), NONE);
        Check.due("c 21", x.rest(21, 0, NONE), NONE);
        Check.due("c -1", x.rest(-1, 0, NONE), NONE);
        Check.due("d 21", x.rest(0, 21, NONE), NONE);
        Check.due("d -1", x.rest(0, -1, -2), NONE);
        Check.due("the second is cheaper", x.rest(20, 0, -2), 1);
        Check.due("the first is cheaper", x.rest(0, 20, -2), 0);
    }

    private static void restByAllCalls() {
        for (int c = 0; c <= 20; c++) {
            for (int d = 0; d <= 20; d++) {
                BladePairs x = new BladePairs();
                List<Integer> rests = new ArrayList<>();
                int[] sells = new int[2];
                for (int p = 0; p <= 20; p++) {
                    for (int q = 0; q <= 20; q++) {
                        boolean rest = true;
                        for (int other = 0; other <= 20; other++) {
                            rest &= wins(other, q, c, d)[0] <= wins(p, q, c, d)[0];
                            rest &= wins(p, other, c, d)[1] <= wins(p, q, c, d)[1];
                        }
                        if (rest) {
                            rests.add(21 * p + q);
                            sells[p <= q ? 0 : 1]++;
                        }
                    }
                }
                Check.due("rests " + c + " " + d, x.rest(c, d, NONE), rests.size());
                for (int k = 0; k < rests.size(); k++) {
                    Check.due("rest " + c + " " + d + " " + k, x.rest(c, d, k), rests.get(k));
                }
                Check.due("rest beyond", x.rest(c, d, rests.size()), NONE);
                Check.due("seller " + c + " " + d, x.rest(c, d, -2), rests.isEmpty() ? NONE : sells[1] > sells[0] ? 1 : 0);
            }
        }
    }

    private static int[] wins(int p, int q, int c, int d) {
        return p <= q ? new int[] {p - c, 0} : new int[] {0, q - d};
    }
}

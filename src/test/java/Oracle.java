import java.math.BigInteger;
import java.util.ArrayList;
import java.util.Arrays;
import java.util.List;
import java.util.Random;

/** A FORGE as told, and the document's words done in their most direct way: all ROWS, all orders, all sets. */
final class Oracle {
    /** DOWNS and UPS: LENGTH, STEEL, EDGE, HAND. */
    final List<int[]> downs = new ArrayList<>();
    final List<int[]> ups = new ArrayList<>();
    /** HARD, PRICE, DAY. */
    final List<int[]> cloths = new ArrayList<>();
    /** Of each DOWN his UP, or 6. */
    int[] pairs = new int[0];
    private List<int[]> rows = null;

    static Oracle random(Random r) {
        Oracle o = new Oracle();
        int spread = r.nextInt(3);
        int downs = size(r);
        int ups = size(r);
        for (int i = 0; i < downs; i++) {
            o.downs.add(blade(r, spread));
        }
        for (int i = 0; i < ups; i++) {
            o.ups.add(blade(r, spread));
        }
        int cloths = r.nextInt(7);
        int days = 1 + r.nextInt(10);
        int prices = r.nextInt(3) == 0 ? 1 + r.nextInt(3) : 21;
        for (int i = 0; i < cloths; i++) {
            o.cloths.add(new int[] {1 + r.nextInt(70), r.nextInt(prices), r.nextInt(days)});
        }
        o.pairs = new int[downs];
        Arrays.fill(o.pairs, 6);
        for (int i = 0; i < 8 && downs > 0 && ups > 0; i++) {
            int d = r.nextInt(downs);
            int u = r.nextInt(ups);
            if (o.pairs[d] == 6 && o.downOf(o.pairs, u) == 6) {
                o.pairs[d] = u;
            }
        }
        return o;
    }

    private static int size(Random r) {
        return r.nextInt(3) == 0 ? r.nextInt(7) : 3 + r.nextInt(4);
    }

    private static int[] blade(Random r, int spread) {
        if (spread == 0) {
            return new int[] {1 + r.nextInt(20), r.nextInt(4), r.nextInt(21), r.nextInt(2)};
        }
        return new int[] {5 + r.nextInt(4 * spread), r.nextInt(2), 10 + r.nextInt(5), r.nextInt(2)};
    }

    String text() {
        StringBuilder s = new StringBuilder();
        for (int[] b : downs) {
            s.append("down").append(numbers(b));
        }
        for (int[] b : ups) {
            s.append("up").append(numbers(b));
        }
        for (int d = 0; d < pairs.length; d++) {
            if (pairs[d] != 6) {
                s.append("rivet ").append(d).append(' ').append(pairs[d]).append(";");
            }
        }
        for (int[] c : cloths) {
            s.append("cloth").append(numbers(c));
        }
        return s.toString();
    }

    private static String numbers(int[] numbers) {
        StringBuilder s = new StringBuilder();
        for (int n : numbers) {
            s.append(' ').append(n);
        }
        return s.append(";").toString();
    }

    int fit(int d, int u) {
        int[] a = downs.get(d);
        int[] b = ups.get(u);
        int fit = 30;
        fit -= 2 * Math.abs(a[0] - b[0]);
        fit -= 5 * Math.abs(a[1] - b[1]);
        if (a[3] != b[3]) {
            fit -= 12;
        }
        return fit < 0 ? 0 : fit;
    }

    int power(int d, int u) {
        return fit(d, u) + downs.get(d)[2] + ups.get(u)[2];
    }

    int downOf(int[] row, int u) {
        for (int d = 0; d < row.length; d++) {
            if (row[d] == u) {
                return d;
            }
        }
        return 6;
    }

    boolean downLikes(int d, int u, int other) {
        if (u == 6 || other == 6) {
            return u != 6;
        }
        return fit(d, u) != fit(d, other) ? fit(d, u) > fit(d, other) : u < other;
    }

    boolean upLikes(int u, int d, int other) {
        if (d == 6 || other == 6) {
            return d != 6;
        }
        return fit(d, u) != fit(other, u) ? fit(d, u) > fit(other, u) : d < other;
    }

    boolean leave(int[] row, int d, int u) {
        return row[d] != u && downLikes(d, u, row[d]) && upLikes(u, d, downOf(row, u));
    }

    int leaving(int[] row) {
        int n = 0;
        for (int d = 0; d < downs.size(); d++) {
            for (int u = 0; u < ups.size(); u++) {
                n += leave(row, d, u) ? 1 : 0;
            }
        }
        return n;
    }

    /** All ROWS in the order of numbers. */
    List<int[]> rows() {
        if (rows == null) {
            rows = new ArrayList<>();
            rowsFrom(new int[downs.size()], 0);
        }
        return rows;
    }

    private void rowsFrom(int[] row, int d) {
        if (d == row.length) {
            rows.add(row.clone());
            return;
        }
        for (int u = 0; u <= 6; u++) {
            boolean free = true;
            for (int e = 0; e < d; e++) {
                free &= u == 6 || row[e] != u;
            }
            if ((u < ups.size() || u == 6) && free) {
                row[d] = u;
                rowsFrom(row, d + 1);
            }
        }
    }

    private List<int[]> standing = null;

    List<int[]> standing() {
        if (standing == null) {
            standing = new ArrayList<>();
            for (int[] row : rows()) {
                if (leaving(row) == 0) {
                    standing.add(row);
                }
            }
        }
        return standing;
    }

    int[] row(int how) {
        switch (how) {
            case 1:
                return bestOfDowns();
            case 2:
                return bestOfUps();
            case 3:
                return least(standing(), 3);
            default:
                return least(rows(), how);
        }
    }

    private int[] bestOfDowns() {
        for (int[] row : standing()) {
            boolean best = true;
            for (int[] other : standing()) {
                for (int d = 0; d < row.length; d++) {
                    best &= !downLikes(d, other[d], row[d]) || other[d] == row[d];
                }
            }
            if (best) {
                return row;
            }
        }
        throw new IllegalStateException("no ROW is best for all DOWNS");
    }

    private int[] bestOfUps() {
        for (int[] row : standing()) {
            boolean best = true;
            for (int[] other : standing()) {
                for (int u = 0; u < ups.size(); u++) {
                    int mine = downOf(row, u);
                    int his = downOf(other, u);
                    best &= mine == his || !upLikes(u, his, mine);
                }
            }
            if (best) {
                return row;
            }
        }
        throw new IllegalStateException("no ROW is best for all UPS");
    }

    private int[] least(List<int[]> all, int how) {
        int[] best = null;
        for (int[] row : all) {
            if (best == null || cost(row, how) < cost(best, how)) {
                best = row;
            }
        }
        return best;
    }

    private int cost(int[] row, int how) {
        if (how == 3) {
            return changes(row);
        }
        return how == 4 ? -sum(row) : -(1000 * couples(row) + leastFit(row));
    }

    int changes(int[] row) {
        int n = 0;
        for (int d = 0; d < row.length; d++) {
            n += row[d] != pairs[d] ? 1 : 0;
        }
        return n;
    }

    int couples(int[] row) {
        int n = 0;
        for (int u : row) {
            n += u != 6 ? 1 : 0;
        }
        return n;
    }

    int sum(int[] row) {
        int n = 0;
        for (int d = 0; d < row.length; d++) {
            n += row[d] != 6 ? fit(d, row[d]) : 0;
        }
        return n;
    }

    int leastFit(int[] row) {
        int least = -1;
        for (int d = 0; d < row.length; d++) {
            if (row[d] != 6) {
                least = least == -1 ? fit(d, row[d]) : Math.min(least, fit(d, row[d]));
            }
        }
        return least;
    }

    /** Parted, riveted: by sets of couples. */
    int[] moves(int[] row) {
        List<Integer> before = new ArrayList<>();
        List<Integer> after = new ArrayList<>();
        for (int d = 0; d < row.length; d++) {
            if (pairs[d] != 6) {
                before.add(10 * d + pairs[d]);
            }
            if (row[d] != 6) {
                after.add(10 * d + row[d]);
            }
        }
        List<Integer> parted = new ArrayList<>(before);
        parted.removeAll(after);
        List<Integer> riveted = new ArrayList<>(after);
        riveted.removeAll(before);
        return new int[] {parted.size(), riveted.size()};
    }

    /** Of each DOWN his UP by TRADE (6: none), and last how many rings; all rings of a round at once. */
    int[] trade() {
        int n = downs.size();
        int[] got = new int[n + 1];
        Arrays.fill(got, 6);
        got[n] = 0;
        List<Integer> left = new ArrayList<>();
        for (int d = 0; d < n; d++) {
            if (pairs[d] != 6) {
                left.add(d);
            }
        }
        while (!left.isEmpty()) {
            int[] points = new int[n];
            for (int d : left) {
                points[d] = left.get(0);
                for (int e : left) {
                    if (downLikes(d, pairs[e], pairs[points[d]]) && e != points[d]) {
                        points[d] = e;
                    }
                }
            }
            List<Integer> out = new ArrayList<>();
            for (int d : left) {
                int at = points[d];
                int least = d;
                for (int i = 0; i < 10 && at != d; i++) {
                    least = Math.min(least, at);
                    at = points[at];
                }
                if (at == d) {
                    got[d] = pairs[points[d]];
                    out.add(d);
                    got[n] += least == d ? 1 : 0;
                }
            }
            left.removeAll(out);
        }
        return got;
    }

    boolean cuts(int d, int c) {
        return d < pairs.length && pairs[d] != 6 && power(d, pairs[d]) >= cloths.get(c)[0];
    }

    /** The best row by CLOTHS, and last its PRICES: all rows are tried. */
    int[] works() {
        int[] best = new int[cloths.size() + 1];
        best[cloths.size()] = -1;
        worksFrom(new int[cloths.size()], 0, best);
        return best;
    }

    private void worksFrom(int[] row, int c, int[] best) {
        if (c == row.length) {
            int prices = prices(row);
            if (prices > best[c]) {
                System.arraycopy(row, 0, best, 0, c);
                best[c] = prices;
            }
            return;
        }
        for (int d = 0; d <= 6; d++) {
            if (d == 6 || cuts(d, c)) {
                row[c] = d;
                worksFrom(row, c + 1, best);
            }
        }
    }

    /** -1: it can't be. */
    private int prices(int[] row) {
        int sum = 0;
        for (int d = 0; d < downs.size(); d++) {
            if (pairs[d] == 6) {
                continue;
            }
            int down = downs.get(d)[2];
            int up = ups.get(pairs[d])[2];
            for (int day = 0; day < 10; day++) {
                int thatDay = 0;
                for (int c = 0; c < row.length; c++) {
                    if (row[c] == d && cloths.get(c)[2] == day) {
                        thatDay++;
                        if (thatDay > 1 || fit(d, pairs[d]) + down + up < cloths.get(c)[0]) {
                            return -1;
                        }
                        sum += cloths.get(c)[1];
                    }
                }
                if (thatDay > 0) {
                    down = down > 0 ? down - 1 : 0;
                    up = up > 0 ? up - 1 : 0;
                }
            }
        }
        return sum;
    }

    int crew() {
        for (int size = 0; size <= 6; size++) {
            for (int bits = 0; bits < 1 << downs.size(); bits++) {
                if (Integer.bitCount(bits) == size && worth(bits, true) >= 0) {
                    return bits;
                }
            }
        }
        return -1;
    }

    /** PRICES that some PAIRS cut together; all: -1, if they don't cut all. */
    private int worth(int bits, boolean all) {
        int sum = 0;
        for (int c = 0; c < cloths.size(); c++) {
            boolean cut = false;
            for (int d = 0; d < downs.size(); d++) {
                cut |= (bits & 1 << d) != 0 && cuts(d, c);
            }
            if (all && !cut) {
                return -1;
            }
            sum += cut ? cloths.get(c)[1] : 0;
        }
        return sum;
    }

    int idle(int d, int c) {
        int days = -1;
        int down = downs.get(d)[2];
        int up = pairs[d] == 6 ? 0 : ups.get(pairs[d])[2];
        while (pairs[d] != 6 && days < 99 && fit(d, pairs[d]) + down + up >= cloths.get(c)[0]) {
            days++;
            down = Math.max(0, down - 1);
            up = Math.max(0, up - 1);
        }
        return days;
    }

    /** Marginal worths over all orders of PAIRS, and how many orders. */
    long[] share(int d) {
        List<Integer> others = new ArrayList<>();
        for (int e = 0; e < pairs.length; e++) {
            if (pairs[e] != 6) {
                others.add(e);
            }
        }
        long[] sums = new long[2];
        orders(others, 0, d, sums);
        BigInteger g = BigInteger.valueOf(sums[0]).gcd(BigInteger.valueOf(sums[1]));
        return new long[] {sums[0] / g.longValue(), sums[1] / g.longValue()};
    }

    private void orders(List<Integer> left, int bits, int d, long[] sums) {
        for (int e : left) {
            if (e == d) {
                long ways = 1;
                for (int i = 2; i < left.size(); i++) {
                    ways *= i;
                }
                sums[0] += ways * (worth(bits | 1 << d, false) - worth(bits, false));
                sums[1] += ways;
            } else {
                List<Integer> rest = new ArrayList<>(left);
                rest.remove(Integer.valueOf(e));
                orders(rest, bits | 1 << e, d, sums);
            }
        }
    }

    int lone() {
        for (int fit = 30; fit >= 0; fit--) {
            for (int d = 0; d < downs.size(); d++) {
                for (int u = 0; u < ups.size(); u++) {
                    if (pairs[d] == 6 && downOf(pairs, u) == 6 && fit(d, u) == fit) {
                        return 6 * d + u;
                    }
                }
            }
        }
        return -1;
    }

    int rank(int k) {
        List<Integer> all = new ArrayList<>();
        for (int d = 0; d < pairs.length; d++) {
            if (pairs[d] != 6) {
                all.add(d);
            }
        }
        all.sort((a, b) -> power(b, pairs[b]) - power(a, pairs[a]));
        return k >= 0 && k < all.size() ? all.get(k) : -1;
    }

    /** How often, the FIT. */
    int[] trued(int d, int u) {
        int[] a = downs.get(d).clone();
        int[] b = ups.get(u).clone();
        int[] best = {0, fit(d, u)};
        Oracle o = new Oracle();
        o.downs.add(a);
        o.ups.add(b);
        int[] longer = a[0] > b[0] ? a : b;
        for (int times = 1; longer[0] > 1; times++) {
            longer[0]--;
            if (o.fit(0, 0) > best[1]) {
                best = new int[] {times, o.fit(0, 0)};
            }
        }
        return best;
    }

    int tips() {
        int n = 0;
        for (int d = 0; d < pairs.length; d++) {
            n += pairs[d] != 6 && downs.get(d)[0] == ups.get(pairs[d])[0] ? 1 : 0;
        }
        return n;
    }

    /** The PAIRS, by how much. */
    int[] swap() {
        int[] best = {-1, 0};
        for (int a = 0; a < pairs.length; a++) {
            for (int b = a + 1; b < pairs.length; b++) {
                if (pairs[a] != 6 && pairs[b] != 6) {
                    int[] other = pairs.clone();
                    other[a] = pairs[b];
                    other[b] = pairs[a];
                    if (sum(other) - sum(pairs) > best[1]) {
                        best = new int[] {6 * a + b, sum(other) - sum(pairs)};
                    }
                }
            }
        }
        return best[0] == -1 ? new int[] {-1, -1} : best;
    }

    int settles() {
        int[] row = pairs.clone();
        for (int times = 0; times <= 100; times++) {
            int at = -1;
            for (int i = 0; i < 36 && at == -1; i++) {
                at = i / 6 < downs.size() && i % 6 < ups.size() && leave(row, i / 6, i % 6) ? i : -1;
            }
            if (at == -1) {
                return times;
            }
            int before = downOf(row, at % 6);
            if (before != 6) {
                row[before] = 6;
            }
            row[at / 6] = at % 6;
        }
        return -1;
    }

    /** Of each DOWN his UP (-1: he left), then WAGES. */
    int[][] hire() {
        int n = downs.size();
        int[] has = new int[n];
        Arrays.fill(has, 6);
        int[] wages = new int[ups.size()];
        while (true) {
            int d = 0;
            while (d < n && has[d] != 6) {
                d++;
            }
            if (d == n) {
                return new int[][] {has, wages};
            }
            int best = Integer.MIN_VALUE;
            int her = -1;
            for (int u = ups.size() - 1; u >= 0; u--) {
                if (fit(d, u) - wages[u] >= best) {
                    best = fit(d, u) - wages[u];
                    her = u;
                }
            }
            if (her == -1 || best < 0) {
                has[d] = -1;
                continue;
            }
            int other = downOf(has, her);
            if (other != 6) {
                has[other] = 6;
                wages[her]++;
            }
            has[d] = her;
        }
    }

    int[] line(int n) {
        if (n == 0) {
            int lengths = 0;
            for (int[] b : downs) {
                lengths += b[0];
            }
            return new int[] {downs.size(), sum(row(1)), lengths};
        }
        Oracle next = new Oracle();
        int[] row = row(1);
        for (int d = 0; d < row.length; d++) {
            if (row[d] != 6) {
                int[] a = downs.get(d);
                int[] b = ups.get(row[d]);
                next.downs.add(new int[] {(a[0] + b[0]) / 2, a[1], 10, a[3]});
                next.ups.add(new int[] {(a[0] + b[0]) / 2, b[1], 10, b[3]});
            }
        }
        next.pairs = new int[next.downs.size()];
        Arrays.fill(next.pairs, 6);
        return next.line(n - 1);
    }

    int clueNumber(int d, int u, int sort) {
        int[] a = downs.get(d);
        int[] b = ups.get(u);
        int[] all = {a[0] + b[0], Math.max(a[0], b[0]) - Math.min(a[0], b[0]), a[2] + b[2], a[3] + b[3]};
        return all[sort];
    }

    /** CLUES: sort, number, 1 if so. */
    List<Integer> whose(List<int[]> clues) {
        List<Integer> couples = new ArrayList<>();
        for (int d = 0; d < downs.size(); d++) {
            for (int u = 0; u < ups.size(); u++) {
                boolean all = true;
                for (int[] clue : clues) {
                    all &= (clueNumber(d, u, clue[0]) == clue[1]) == (clue[2] == 1);
                }
                if (all) {
                    couples.add(6 * d + u);
                }
            }
        }
        return couples;
    }

    int next(List<Integer> couples) {
        int best = -1;
        int least = 100;
        for (int sort = 0; sort < 4 && !couples.isEmpty(); sort++) {
            int[] by = new int[50];
            for (int couple : couples) {
                by[clueNumber(couple / 6, couple % 6, sort)]++;
            }
            int most = Arrays.stream(by).max().getAsInt();
            if (most < least) {
                least = most;
                best = sort;
            }
        }
        return best;
    }
}

import java.util.ArrayList;
import java.util.List;
import java.util.Random;

/** Many FORGES by a fixed seed, all answers of promises 7, 11 to 15, 20, 22 to 34 against the Oracle's. */
public final class OracleTest {
    private static final int NONE = BladePairs.NONE;

    public static void main(String[] args) {
        Random r = new Random(20261118);
        for (int i = 0; i < 400; i++) {
            Oracle o = Oracle.random(r);
            // an object is used for 512 calls at most
            fits(o, Check.forge(o.text()));
            rows(o, Check.forge(o.text()));
            trades(o, Check.forge(o.text()));
            cuts(o, Check.forge(o.text()));
            rest(o, Check.forge(o.text()));
            whose(o, Check.forge(o.text()), r);
        }
        Check.end();
    }

    private static void fits(Oracle o, BladePairs x) {
        for (int d = -1; d < 8; d++) {
            for (int u = -1; u < 8; u++) {
                boolean there = d >= 0 && u >= 0 && d < o.downs.size() && u < o.ups.size();
                Check.due("fit", x.fit(0, d, u, false), there ? o.fit(d, u) : NONE);
                Check.due("power", x.fit(0, d, u, true), there ? o.power(d, u) : NONE);
                Check.due("trued", x.trued(0, d, u, false), there ? o.trued(d, u)[0] : NONE);
                Check.due("trued best", x.trued(0, d, u, true), there ? o.trued(d, u)[1] : NONE);
            }
        }
    }

    private static void rows(Oracle o, BladePairs x) {
        Check.due("leaving as told in " + o.text(), x.leaving(0, 0), o.leaving(o.pairs));
        for (int how = 1; how <= 5; how++) {
            int[] row = o.row(how);
            String name = " " + how + " in " + o.text();
            Check.due("leaving" + name, x.leaving(0, how), o.leaving(row));
            Check.due("row NONE" + name, x.row(0, how, NONE), o.couples(row));
            for (int d = -2; d < 8; d++) {
                if (d != NONE) {
                    Check.due("row " + d + name, x.row(0, how, d), d >= 0 && d < row.length ? row[d] : NONE);
                }
            }
            Check.due("moves part" + name, x.moves(0, how, false), o.moves(row)[0]);
            Check.due("moves rivet" + name, x.moves(0, how, true), o.moves(row)[1]);
        }
        Check.due("changed", x.rows(0, 0), o.changes(o.row(3)));
        Check.due("best", x.rows(0, 1), o.sum(o.row(4)));
        Check.due("unlike", x.rows(0, 2), o.leastFit(o.row(5)));
        Check.due("standing", x.rows(0, 3), o.standing().size());
        Check.due("settles in " + o.text(), x.settles(0), o.settles());
        for (int n = 0; n <= 9; n++) {
            int[] line = o.line(n);
            for (int what = 0; what < 3; what++) {
                Check.due("line " + n + " " + what + " in " + o.text(), x.line(0, n, what), line[what]);
            }
        }
    }

    private static void trades(Oracle o, BladePairs x) {
        int n = o.downs.size();
        int[] got = o.trade();
        int other = 0;
        for (int d = 0; d < n; d++) {
            Check.due("trade " + d + " in " + o.text(), x.trade(0, d), got[d] == 6 ? NONE : got[d]);
            other += got[d] != o.pairs[d] ? 1 : 0;
        }
        Check.due("rings in " + o.text(), x.rings(0, false), got[n]);
        Check.due("rings other in " + o.text(), x.rings(0, true), other);
        int[][] hire = o.hire();
        for (int k = -1; k < 8; k++) {
            Check.due("hire " + k, x.hire(0, k, false), k >= 0 && k < n ? hire[0][k] : -2);
            Check.due("wage " + k, x.hire(0, k, true), k >= 0 && k < o.ups.size() ? hire[1][k] : -2);
        }
        Check.due("swap", x.swap(0, false), o.swap()[0]);
        Check.due("swap gain", x.swap(0, true), o.swap()[1]);
    }

    private static void cuts(Oracle o, BladePairs x) {
        int[] works = o.works();
        int n = o.cloths.size();
        Check.due("works in " + o.text(), x.works(0, NONE), works[n]);
        for (int c = 0; c < 8; c++) {
            Check.due("works " + c + " in " + o.text(), x.works(0, c), c < n ? works[c] : NONE);
        }
        Check.due("crew in " + o.text(), x.crew(0), o.crew());
        for (int d = -1; d < 8; d++) {
            boolean there = d >= 0 && d < o.downs.size();
            for (int c = -1; c < 8; c++) {
                Check.due("idle", x.idle(0, d, c), there && c >= 0 && c < n ? o.idle(d, c) : NONE);
            }
            boolean paired = there && o.pairs[d] != 6;
            Check.due("share " + d + " in " + o.text(), x.share(0, d, false), paired ? o.share(d)[0] : NONE);
            Check.due("share under " + d + " in " + o.text(), x.share(0, d, true), paired ? o.share(d)[1] : NONE);
        }
    }

    private static void rest(Oracle o, BladePairs x) {
        Check.due("lone", x.lone(0), o.lone());
        Check.due("tips", x.tips(0), o.tips());
        for (int k = -1; k < 8; k++) {
            Check.due("rank", x.rank(0, k), o.rank(k));
        }
    }

    private static void whose(Oracle o, BladePairs x, Random r) {
        String[] names = {"long", "apart", "rough", "left"};
        int[] mosts = {40, 20, 40, 2};
        for (int times = 0; times < 4; times++) {
            List<int[]> clues = new ArrayList<>();
            StringBuilder text = new StringBuilder();
            int n = r.nextInt(5);
            for (int i = 0; i < n; i++) {
                int sort = r.nextInt(4);
                int so = r.nextInt(4) == 0 ? 1 : 0;
                int number = r.nextInt(mosts[sort] + 1);
                if (!o.downs.isEmpty() && !o.ups.isEmpty()) {
                    number = o.clueNumber(r.nextInt(o.downs.size()), r.nextInt(o.ups.size()), sort);
                }
                clues.add(new int[] {sort, number, so});
                text.append(names[sort]).append(so == 1 ? " " : " no ").append(number).append(';');
            }
            Check.due("clues", Check.tell(x, 2, times == 0 ? NONE : 0, text.toString()), 0);
            List<Integer> couples = o.whose(clues);
            Check.due("whose", x.whose(0, 0, 0), couples.size());
            Check.due("next", x.whose(0, 0, 3), o.next(couples));
            Check.due("sure down", x.whose(0, 0, 1), sure(couples, 6, 1));
            Check.due("sure up", x.whose(0, 0, 2), sure(couples, 1, 6));
            for (int k = 0; k < 40; k++) {
                Check.due("whose k", x.whose(0, 0, 10 + k), k < couples.size() ? couples.get(k) : -2);
            }
        }
    }

    /** The DOWN (by 6, 1) or the UP (by 1, 6) who is in all. */
    private static int sure(List<Integer> couples, int by, int of) {
        int sure = NONE;
        for (int b = 0; b < 6 && !couples.isEmpty(); b++) {
            boolean all = true;
            for (int couple : couples) {
                all &= (of == 6 ? couple % 6 : couple / by) == b;
            }
            sure = all ? b : sure;
        }
        return sure;
    }
}

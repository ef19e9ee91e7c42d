import java.util.Arrays;

/** The edges of promises 11 to 14, 24, 25, 30, 31, 33, 34: ROWS, TRADE, MOVES, RINGS, SWAP, SETTLES, HIRE, LINE. */
public final class EdgeRowTest {
    private static final int NONE = BladePairs.NONE;
    /** Six of each, each liking just the one of his number best. */
    private static final String TWINS = "down 1 0 0 0;down 4 0 0 0;down 7 0 0 0;down 10 0 0 0;down 13 0 0 0;down 16 0 0 0;"
            + "up 1 0 0 0;up 4 0 0 0;up 7 0 0 0;up 10 0 0 0;up 13 0 0 0;up 16 0 0 0;";
    /** A DOWN and an UP of FIT 0. */
    private static final String STRANGERS = "down 1 0 0 0;up 20 0 0 0;";

    public static void main(String[] args) {
        Edges.run(EdgeRowTest.class);
    }

    /** ROW how of the FORGE is this, and has so many LEAVING, and this many DOWNS have an UP. */
    private static void row(BladePairs x, int how, int leaving, int... row) {
        int couples = 0;
        for (int d = 0; d < row.length; d++) {
            Check.due("ROW " + how + " of DOWN " + d, x.row(0, how, d), row[d]);
            couples += row[d] != 6 ? 1 : 0;
        }
        Check.due("how many in ROW " + how, x.row(0, how, NONE), couples);
        Check.due("LEAVING of ROW " + how, x.leaving(0, how), leaving);
    }

    private static int[] upTo(int downs, int ups) {
        int[] row = new int[downs];
        for (int d = 0; d < downs; d++) {
            row[d] = d < ups ? d : 6;
        }
        return row;
    }

    @Says(promise = {11, 12, 13}, words = "A ROW of DOWNS tells of each his UP, or none (6), no UP twice.")
    static void rowsOfAllSizes() {
        for (int downs = 0; downs <= 6; downs++) {
            for (int ups = 0; ups <= 6; ups++) {
                BladePairs x = Check.forge(Edges.alike(downs, ups));
                int few = Math.min(downs, ups);
                for (int how = 1; how <= 5; how++) {
                    row(x, how, 0, upTo(downs, ups));
                    Check.due("to be parted", x.moves(0, how, false), 0);
                    Check.due("to be riveted", x.moves(0, how, true), few);
                }
                Check.due("CHANGED", x.rows(0, 0), few);
                Check.due("BEST", x.rows(0, 1), 30 * few);
                Check.due("UNLIKE", x.rows(0, 2), few == 0 ? NONE : 30);
                Check.due("ROWS that stand", x.rows(0, 3), 1);
                // none is worst: each would leave with each
                Check.due("LEAVING as told", x.leaving(0, 0), downs * ups);
                Check.due("SETTLES", x.settles(0), few);
            }
        }
    }

    @Says(promise = {11, 12, 13, 24}, words = {"LEAVING of the PAIRS that are told (how 0), of ASKED (1), SHE (2), CHANGED (3), BEST (4), UNLIKE (5).",
        "Of a ROW (how 1 to 5, as above)", "MOVES to a ROW (1 to 5 as above)"})
    static void eachHowHasItsOwnRow() {
        // FITS 30, 28, 28, 26: only UNLIKE parts the two who fit best
        BladePairs x = Check.forge("down 10 0 0 0;down 11 0 0 0;up 10 0 0 0;up 9 0 0 0;" + Edges.rivets(1, 0));
        for (int how = 1; how <= 4; how++) {
            row(x, how, 0, 0, 1);
            Check.due("to be parted for " + how, x.moves(0, how, false), 2);
        }
        row(x, 5, 1, 1, 0);
        Check.due("to be parted for 5", x.moves(0, 5, false), 0);
        Check.due("LEAVING as told", x.leaving(0, 0), 1);
        Check.due("UNLIKE", x.rows(0, 2), 28);
        Check.due("ROWS that stand, behind UNLIKE", x.rows(0, 3), 1);
        // FITS 24, 14, 20, 0: BEST and UNLIKE part them
        x = Check.forge("down 10 0 0 0;down 18 0 0 0;up 13 0 0 0;up 2 0 0 0;");
        for (int how = 1; how <= 3; how++) {
            row(x, how, 0, 0, 1);
        }
        row(x, 4, 1, 1, 0);
        row(x, 5, 1, 1, 0);
        Check.due("UNLIKE", x.rows(0, 2), 14);
        // FITS 26, 28 and 6, 8: UNLIKE parts the couple of 28, as the other one were of 6 then
        x = Check.forge("down 10 0 0 0;down 20 0 0 0;up 8 0 0 0;up 9 0 0 0;");
        Check.due("UNLIKE", x.rows(0, 2), 8);
        row(x, 5, 1, 0, 1);
        // the least FIT may be anybody's
        Check.due("the first one's", Check.forge("down 1 0 0 0;down 9 0 0 0;up 5 0 0 0;up 9 0 0 0;").rows(0, 2), 22);
        Check.due("the last one's", Check.forge("down 9 0 0 0;down 1 0 0 0;up 9 0 0 0;up 5 0 0 0;").rows(0, 2), 22);
    }

    @Says(promise = {11, 12}, words = {"ASKED: the ROW that stands by which each DOWN has the best he has in any; SHE: that by which each UP has.",
        "It STANDS, if there are none."})
    static void whoIsLeftForABetterOne() {
        // UP 0 is the best for both, and likes DOWN 1 better
        everyStandingRow(Check.forge("down 6 0 0 0;down 5 0 0 0;up 5 0 0 0;up 9 0 0 0;"), 1, 0);
        everyStandingRow(Check.forge("down 6 0 0 0;down 5 0 0 0;up 5 0 0 0;"), 6, 0);
        // DOWN 0 is the best for both, and likes UP 1 better
        everyStandingRow(Check.forge("down 5 0 0 0;down 9 0 0 0;up 6 0 0 0;up 5 0 0 0;"), 1, 0);
        everyStandingRow(Check.forge("down 5 0 0 0;up 6 0 0 0;up 5 0 0 0;"), 1);
        // each in turn leaves the one before: the last of six is the best for all
        everyStandingRow(Check.forge("down 7 0 0 0;down 6 0 0 0;down 5 0 0 0;down 4 0 0 0;down 3 0 0 0;down 2 0 0 0;up 1 0 0 0;"),
                6, 6, 6, 6, 6, 0);
    }

    private static void everyStandingRow(BladePairs x, int... row) {
        for (int how = 1; how <= 3; how++) {
            row(x, how, 0, row);
        }
    }

    @Says(promise = {11, 12, 13}, words = "A ROW of DOWNS tells of each his UP, or none (6), no UP twice.")
    static void everyRowCanBeTheBest() {
        for (int[] sizes : new int[][] {{6, 6}, {3, 5}, {5, 3}, {1, 6}, {6, 1}, {2, 2}}) {
            everyRow(sizes[0], sizes[1], new int[sizes[0]], 0, 0);
        }
    }

    /** All ROWS with as many as can be, and for each a FORGE in which those couples are of like LENGTH. */
    private static void everyRow(int downs, int ups, int[] row, int d, int taken) {
        if (d < downs) {
            int left = downs - d - 1;
            int free = ups - Integer.bitCount(taken);
            for (int u = 0; u <= 6; u++) {
                boolean may = u < ups ? (taken >> u & 1) == 0 : u == 6 && free <= left;
                if (may) {
                    row[d] = u;
                    everyRow(downs, ups, row, d + 1, u < 6 ? taken | 1 << u : taken);
                }
            }
            return;
        }
        int[] downLengths = new int[downs];
        int[] upLengths = new int[ups];
        Arrays.fill(downLengths, 20);
        Arrays.fill(upLengths, 20);
        for (int i = 0; i < downs; i++) {
            if (row[i] != 6) {
                downLengths[i] = 1 + 3 * i;
                upLengths[row[i]] = 1 + 3 * i;
            }
        }
        StringBuilder forge = new StringBuilder();
        for (int length : downLengths) {
            forge.append("down ").append(length).append(" 0 0 0;");
        }
        for (int length : upLengths) {
            forge.append("up ").append(length).append(" 0 0 0;");
        }
        BladePairs x = Check.forge(forge.toString());
        int couples = Math.min(downs, ups);
        Check.due("BEST of " + forge, x.rows(0, 1), 30 * couples);
        Check.due("UNLIKE of " + forge, x.rows(0, 2), 30);
        Check.due("ROWS that stand of " + forge, x.rows(0, 3), 1);
        for (int how = 1; how <= 5; how++) {
            row(x, how, 0, row);
        }
    }

    @Says(promise = {11, 12, 13, 14, 24, 25, 30, 31, 33, 34}, words = "(Of a FORGE as told.)")
    static void ofASmallForgeBehindALargeOne() {
        String[] smalls = {"", Edges.alike(1, 1), STRANGERS, "down 1 0 0 0;down 1 0 0 0;up 20 0 0 0;up 20 0 0 0;rivet 0 1;rivet 1 0;",
            Edges.alike(6, 1), Edges.alike(1, 6), "down 1 0 0 0;up 20 0 0 0;up 20 0 0 0;up 20 0 0 0;up 20 0 0 0;up 20 0 0 0;"};
        for (String small : smalls) {
            BladePairs x = Check.forge(Edges.alike(6, 6) + Edges.rivets(1, 2, 3, 4, 5, 0));
            Check.due("a small one", Check.tell(x, 0, NONE, small), 1);
            BladePairs alone = Check.forge(small);
            for (int q = 0; q < 60; q++) {
                ask(x, 0, q);
                Check.due("question " + q + " of " + small, ask(x, 1, q), ask(alone, 0, q));
            }
        }
    }

    /** One of sixty questions of ROWS and what goes with them. */
    private static long ask(BladePairs x, int forge, int q) {
        int n = q % 10;
        switch (q / 10) {
            case 0:
                return n < 6 ? x.leaving(forge, n) : x.rows(forge, n - 6);
            case 1:
                return n < 5 ? x.row(forge, n + 1, NONE) : x.row(forge, n - 4, 0);
            case 2:
                return n < 5 ? x.moves(forge, n + 1, false) : x.moves(forge, n - 4, true);
            case 3:
                return n < 6 ? x.trade(forge, n) : n < 8 ? x.rings(forge, n == 6) : x.swap(forge, n == 8);
            case 4:
                return n < 6 ? x.hire(forge, n, n % 2 == 0) : n == 6 ? x.settles(forge) : x.line(forge, 1, n - 7);
            default:
                return n < 6 ? x.hire(forge, n, n % 2 == 1) : x.line(forge, n, 1);
        }
    }

    @Says(promise = 11, words = "NONE: there is none such, or another how.")
    static void leavingOfOtherHows() {
        BladePairs x = Check.forge(Edges.alike(2, 2));
        int[] due = {4, 0, 0, 0, 0, 0};
        for (int how = 0; how <= 5; how++) {
            Check.due("leaving(0, " + how + ")", x.leaving(0, how), due[how]);
            for (int f : Edges.beyond(0, 0)) {
                Check.due("leaving(" + f + ", " + how + ")", x.leaving(f, how), NONE);
            }
            Check.due("nothing told", new BladePairs().leaving(0, how), NONE);
        }
        for (int how : Edges.beyond(0, 5)) {
            Check.due("leaving(0, " + how + ")", x.leaving(0, how), NONE);
        }
    }

    @Says(promise = 11, words = {"how many couples there are who both like each other better than whom they have in it (none is worst)",
        "Each BLADE likes those of the other side by FIT, the greatest best, of like ones the least number"})
    static void leavingOfThosePaired() {
        // all with the one they like best, and with the one of the next number
        Check.due("twins", Check.forge(TWINS + Edges.rivets(0, 1, 2, 3, 4, 5)).leaving(0, 0), 0);
        // 0 has 1 and 1 has 0: both DOWN 0 with UP 0 and DOWN 1 with UP 1 would leave
        Check.due("two changed", Check.forge(TWINS + Edges.rivets(1, 0, 2, 3, 4, 5)).leaving(0, 0), 2);
        // only one of the two would: UP 0 likes DOWN 0 as well, who is of the least number
        Check.due("one likes, one not", Check.forge(Edges.alike(2, 1) + "rivet 0 0;").leaving(0, 0), 0);
        Check.due("both like", Check.forge(Edges.alike(2, 1) + "rivet 1 0;").leaving(0, 0), 1);
        Check.due("of like ones the least number", Check.forge(Edges.alike(1, 2) + "rivet 0 1;").leaving(0, 0), 1);
        Check.due("of like ones the least number", Check.forge(Edges.alike(1, 2) + "rivet 0 0;").leaving(0, 0), 0);
        // they have each other: not better than whom they have
        Check.due("FIT 0, a PAIR", Check.forge(STRANGERS + "rivet 0 0;").leaving(0, 0), 0);
    }

    @Says(promise = {11, 12}, words = "anybody is better than none")
    static void fit0IsBetterThanNone() {
        BladePairs x = Check.forge(STRANGERS);
        Check.due("they would leave", x.leaving(0, 0), 1);
        for (int how = 1; how <= 5; how++) {
            row(x, how, 0, 0);
        }
        Check.due("CHANGED", x.rows(0, 0), 1);
        Check.due("BEST", x.rows(0, 1), 0);
        Check.due("UNLIKE", x.rows(0, 2), 0);
        Check.due("SETTLES", x.settles(0), 1);
    }

    @Says(promise = 12, words = {"Of a ROW (how 1 to 5, as above), k NONE: how many DOWNS have an UP, else whom DOWN k has (6: none).",
        "NONE: there is none such (of either), or another how."})
    static void rowOfNoSuch() {
        for (int downs = 0; downs <= 6; downs += 3) {
            BladePairs x = Check.forge(Edges.alike(downs, 2));
            for (int how = 1; how <= 5; how++) {
                Check.due("k NONE", x.row(0, how, NONE), Math.min(downs, 2));
                for (int k : new int[] {Integer.MIN_VALUE, -2, downs, 6, 7, Integer.MAX_VALUE}) {
                    Check.due("k " + k + " of " + downs, x.row(0, how, k), NONE);
                }
                for (int f : Edges.beyond(0, 0)) {
                    Check.due("FORGE " + f, x.row(f, how, NONE), NONE);
                    Check.due("FORGE " + f, x.row(f, how, 0), NONE);
                }
            }
            for (int how : Edges.beyond(1, 5)) {
                Check.due("how " + how, x.row(0, how, NONE), NONE);
                Check.due("how " + how, x.row(0, how, 0), NONE);
            }
        }
        Check.due("nothing told", new BladePairs().row(0, 1, NONE), NONE);
    }

    @Says(promise = 13, words = {"What 0: CHANGED, how many, 1: BEST, the sum, 2: UNLIKE, the FIT (NONE: nobody is in it), 3: how many ROWS "
        + "stand.", "NONE: there is none such, or for another what."})
    static void rowsOfOtherWhats() {
        BladePairs x = Check.forge(Edges.alike(1, 1));
        int[] due = {1, 30, 30, 1};
        for (int what = 0; what <= 3; what++) {
            Check.due("rows(0, " + what + ")", x.rows(0, what), due[what]);
            for (int f : Edges.beyond(0, 0)) {
                Check.due("rows(" + f + ", " + what + ")", x.rows(f, what), NONE);
            }
            Check.due("nothing told", new BladePairs().rows(0, what), NONE);
        }
        for (int what : Edges.beyond(0, 3)) {
            Check.due("rows(0, " + what + ")", x.rows(0, what), NONE);
        }
    }

    @Says(promise = {12, 13}, words = "the fewest DOWNS have another one than in the PAIRS that are told (none counts as one, too); of several "
        + "the first by numbers; how many.")
    static void changedOfNoneAndOfAll() {
        // FIT being the same for both, one ROW stands in any FORGE, so there never are several
        row(Check.forge(TWINS + Edges.rivets(1, 2, 3, 4, 5, 0)), 3, 0, 0, 1, 2, 3, 4, 5);
        row(Check.forge(Edges.alike(3, 3) + Edges.rivets(2, 1, 0)), 3, 0, 0, 1, 2);
        Check.due("as told", Check.forge(TWINS + Edges.rivets(0, 1, 2, 3, 4, 5)).rows(0, 0), 0);
        Check.due("all others", Check.forge(TWINS + Edges.rivets(1, 2, 3, 4, 5, 0)).rows(0, 0), 6);
        Check.due("no PAIRS", Check.forge(TWINS).rows(0, 0), 6);
        Check.due("two changed", Check.forge(TWINS + Edges.rivets(0, 1, 2, 3, 5, 4)).rows(0, 0), 2);
        Check.due("one is told in no PAIR", Check.forge(TWINS + Edges.rivets(0, 1, 2, 3, 4)).rows(0, 0), 1);
        Check.due("one has none then", Check.forge(Edges.alike(2, 1) + "rivet 1 0;").rows(0, 0), 2);
        Check.due("one has none then as before", Check.forge(Edges.alike(2, 1) + "rivet 0 0;").rows(0, 0), 0);
        Check.due("nobody ever has one", Check.forge(Edges.alike(6, 0)).rows(0, 0), 0);
    }

    @Says(promise = {12, 13}, words = "BEST: the greatest sum of FITS of any ROW; the first ROW by numbers")
    static void bestOfSeveral() {
        // both ways 56: 30 and 26, 28 and 28
        BladePairs x = Check.forge("down 10 0 0 0;down 11 0 0 0;up 10 0 0 0;up 9 0 0 0;");
        Check.due("BEST", x.rows(0, 1), 56);
        row(x, 4, 0, 0, 1);
        // FITS 24 and 0 are less than 14 and 20: those who fit best are not with each other
        x = Check.forge("down 10 0 0 0;down 18 0 0 0;up 13 0 0 0;up 2 0 0 0;");
        Check.due("BEST", x.rows(0, 1), 34);
        row(x, 4, 1, 1, 0);
        // one too many: the least numbers of like sums, none being 6
        row(Check.forge("down 5 0 0 0;down 5 0 0 0;up 5 0 0 0;"), 4, 0, 0, 6);
        row(Check.forge("down 1 0 0 0;down 5 0 0 0;up 5 0 0 0;"), 4, 0, 6, 0);
        Check.due("six and six", Check.forge(TWINS).rows(0, 1), 180);
    }

    @Says(promise = {12, 13}, words = "UNLIKE: the ROW by which the least FIT of any couple in it is greatest, as many being in it as can "
        + "be; that FIT.")
    static void unlikeHasAsManyAsCanBe() {
        // the couple of FIT 0 is in it, though without it the least were 30
        BladePairs x = Check.forge("down 5 0 0 0;down 1 3 0 1;up 5 0 0 0;up 20 0 0 0;");
        Check.due("the FIT", x.rows(0, 2), 0);
        Check.due("how many", x.row(0, 5, NONE), 2);
        // the least is greater without the greatest
        x = Check.forge("down 10 0 0 0;down 11 0 0 0;up 10 0 0 0;up 9 0 0 0;");
        Check.due("the FIT", x.rows(0, 2), 28);
        row(x, 5, 1, 1, 0);
        // one DOWN too many: who fits worst has none
        x = Check.forge("down 1 0 0 0;down 5 0 0 0;up 5 0 0 0;");
        Check.due("the FIT", x.rows(0, 2), 30);
        row(x, 5, 0, 6, 0);
        Check.due("nobody", Check.forge(Edges.alike(6, 0)).rows(0, 2), NONE);
        Check.due("nobody", Check.forge(Edges.alike(0, 6)).rows(0, 2), NONE);
        Check.due("nobody", Check.forge("").rows(0, 2), NONE);
    }

    @Says(promise = 14, words = "NONE: he is in no PAIR, or there is none such (of either).")
    static void tradeOfNoSuch() {
        BladePairs x = Check.forge(Edges.alike(3, 3) + Edges.rivets(NONE, 2));
        int[] due = {NONE, 2, NONE, NONE, NONE, NONE, NONE};
        for (int d = 0; d < due.length; d++) {
            Check.due("trade(0, " + d + ")", x.trade(0, d), due[d]);
        }
        for (int far : Edges.beyond(0, 2)) {
            Check.due("trade(0, " + far + ")", x.trade(0, far), NONE);
        }
        for (int f : Edges.beyond(0, 0)) {
            Check.due("trade(" + f + ", 1)", x.trade(f, 1), NONE);
        }
        Check.due("no PAIRS", Check.forge(Edges.alike(6, 6)).trade(0, 0), NONE);
        Check.due("no BLADES", Check.forge("").trade(0, 0), NONE);
        Check.due("nothing told", new BladePairs().trade(0, 0), NONE);
    }

    private static void trade(String forge, int rings, int others, int... got) {
        BladePairs x = Check.forge(forge);
        for (int d = 0; d < got.length; d++) {
            Check.due("trade of DOWN " + d + " in " + forge, x.trade(0, d), got[d]);
        }
        Check.due("RINGS in " + forge, x.rings(0, false), rings);
        Check.due("others in " + forge, x.rings(0, true), others);
    }

    @Says(promise = {14, 25}, words = {"RINGS of TRADE: how many there are (of one, too); how many DOWNS have another UP by it.",
        "all in a ring get those they point at, and are out of it"})
    static void ringsOfOneAndOfSix() {
        trade("", 0, 0);
        trade(Edges.alike(6, 6), 0, 0, NONE, NONE, NONE, NONE, NONE, NONE);
        trade(TWINS + Edges.rivets(0, 1, 2, 3, 4, 5), 6, 0, 0, 1, 2, 3, 4, 5);
        trade(TWINS + Edges.rivets(1, 2, 3, 4, 5, 0), 1, 6, 0, 1, 2, 3, 4, 5);
        trade(TWINS + Edges.rivets(1, 0, 3, 2, 5, 4), 3, 6, 0, 1, 2, 3, 4, 5);
        trade(TWINS + Edges.rivets(1, 2, 0, 3, 5, 4), 3, 5, 0, 1, 2, 3, 4, 5);
        // those in no PAIR are not in it, nor are their UPS
        trade(TWINS + Edges.rivets(1, NONE, 3, NONE, 5, NONE), 3, 0, 1, NONE, 3, NONE, 5, NONE);
        trade(TWINS + Edges.rivets(NONE, NONE, NONE, NONE, NONE, 0), 1, 0, NONE, NONE, NONE, NONE, NONE, 0);
        // all like UP 0 best, then UP 1, and so on: who has her keeps her
        trade(Edges.alike(6, 6) + Edges.rivets(5, 4, 3, 2, 1, 0), 6, 0, 5, 4, 3, 2, 1, 0);
    }

    @Says(promise = {14, 25}, words = "each points at the DOWN who has the UP he likes best of all that are left")
    static void tradeOfThoseWhoLikeTwoAlike() {
        // DOWN 0 likes both alike: UP 0, of the least number; DOWN 1 likes UP 1 better
        String forge = "down 5 0 0 0;down 6 0 0 0;up 4 0 0 0;up 6 0 0 0;";
        trade(forge + Edges.rivets(1, 0), 1, 2, 0, 1);
        trade(forge + Edges.rivets(0, 1), 2, 0, 0, 1);
        // DOWN 1 likes UP 0 better
        forge = "down 5 0 0 0;down 4 0 0 0;up 4 0 0 0;up 6 0 0 0;";
        trade(forge + Edges.rivets(0, 1), 2, 0, 0, 1);
        trade(forge + Edges.rivets(1, 0), 2, 0, 1, 0);
        // FITS that differ by 1 are not alike: 17 for UP 0 and 18 for UP 1
        forge = "down 5 0 0 0;down 5 3 0 0;up 9 1 0 0;up 5 0 0 1;";
        trade(forge + Edges.rivets(0, 1), 1, 2, 1, 0);
        trade(forge + Edges.rivets(1, 0), 2, 0, 1, 0);
    }

    @Says(promise = 25, words = "RINGS: how many, or (other) who has another one.")
    static void ringsAskedFirstOfAll() {
        String forge = TWINS + Edges.rivets(1, 0, 3, 2, 4, 5);
        Check.due("RINGS", Check.forge(forge).rings(0, false), 4);
        Check.due("others", Check.forge(forge).rings(0, true), 4);
        BladePairs x = Check.forge(forge);
        Check.due("HIRE", x.hire(0, 0, false), 0);
        Check.due("others behind HIRE", x.rings(0, true), 4);
        Check.due("HIRE", x.hire(0, 1, false), 1);
        Check.due("RINGS behind HIRE", x.rings(0, false), 4);
    }

    @Says(promise = 25, words = "NONE: there is none such.")
    static void ringsOfNoSuchForge() {
        BladePairs x = Check.forge("");
        for (boolean other : new boolean[] {false, true}) {
            Check.due("rings(0)", x.rings(0, other), 0);
            for (int f : Edges.beyond(0, 0)) {
                Check.due("rings(" + f + ")", x.rings(f, other), NONE);
            }
            Check.due("nothing told", new BladePairs().rings(0, other), NONE);
        }
    }

    private static void moves(String forge, int parted, int riveted) {
        BladePairs x = Check.forge(forge);
        for (int how = 1; how <= 5; how++) {
            Check.due("to be parted for ROW " + how + " of " + forge, x.moves(0, how, false), parted);
            Check.due("to be riveted for ROW " + how + " of " + forge, x.moves(0, how, true), riveted);
        }
    }

    @Says(promise = 24, words = {"how many are to be parted, how many to be riveted, so that the PAIRS are those of the ROW",
        "NONE: there is none such, or another how."})
    static void movesOfNoneAndOfAll() {
        moves("", 0, 0);
        moves(Edges.alike(6, 0), 0, 0);
        moves(TWINS, 0, 6);
        moves(TWINS + Edges.rivets(0, 1, 2, 3, 4, 5), 0, 0);
        moves(TWINS + Edges.rivets(1, 2, 3, 4, 5, 0), 6, 6);
        moves(TWINS + Edges.rivets(0, 1, 2, 3, NONE, 4), 1, 2);
        moves("down 5 0 0 0;down 9 0 0 0;up 5 0 0 0;rivet 1 0;", 1, 1);
        BladePairs x = Check.forge(Edges.alike(1, 1));
        for (boolean rivet : new boolean[] {false, true}) {
            for (int how : Edges.beyond(1, 5)) {
                Check.due("how " + how, x.moves(0, how, rivet), NONE);
            }
            for (int how = 1; how <= 5; how++) {
                for (int f : Edges.beyond(0, 0)) {
                    Check.due("FORGE " + f, x.moves(f, how, rivet), NONE);
                }
                Check.due("nothing told", new BladePairs().moves(0, how, rivet), NONE);
            }
        }
    }

    private static void swap(String forge, int due, int gain) {
        BladePairs x = Check.forge(forge);
        Check.due("SWAP of " + forge, x.swap(0, false), due);
        Check.due("by how much in " + forge, x.swap(0, true), gain);
    }

    @Says(promise = 30, words = {"so that FITS of both together grow most, of several the first by numbers (6 times a, and b); by how much "
        + "(above 0)", "NONE: by none, or there is none such."})
    static void swapByNoneByOneAndByTheLastTwo() {
        swap("", NONE, NONE);
        swap(Edges.alike(6, 6), NONE, NONE);
        swap(TWINS + Edges.rivets(1), NONE, NONE);
        swap(TWINS + Edges.rivets(0, 1, 2, 3, 4, 5), NONE, NONE);
        // by 0 is by none
        swap(Edges.alike(2, 2) + Edges.rivets(1, 0), NONE, NONE);
        // by 1: FITS 0 and 0, then 1 and 0
        swap("down 13 0 0 0;down 17 3 0 0;up 1 1 0 1;up 7 1 0 1;" + Edges.rivets(0, 1), 1, 1);
        swap("down 13 0 0 0;down 17 3 0 0;up 1 1 0 1;up 7 1 0 1;" + Edges.rivets(1, 0), NONE, NONE);
        swap(TWINS + Edges.rivets(0, 1, 2, 3, 5, 4), 29, 12);
        swap(TWINS + Edges.rivets(1, 0, 2, 3, 4, 5), 1, 12);
        swap(TWINS + Edges.rivets(5, 1, 2, 3, 4, 0), 5, 60);
        // of several the first by numbers
        swap(TWINS + Edges.rivets(1, 0, 3, 2, 5, 4), 1, 12);
        swap(TWINS + Edges.rivets(0, 1, 3, 2, 5, 4), 15, 12);
        // with a DOWN in no PAIR nobody changes, though both would fit better
        swap(TWINS + Edges.rivets(1, NONE), NONE, NONE);
        BladePairs x = Check.forge(TWINS + Edges.rivets(1, 0));
        for (boolean gain : new boolean[] {false, true}) {
            for (int f : Edges.beyond(0, 0)) {
                Check.due("FORGE " + f, x.swap(f, gain), NONE);
            }
            Check.due("nothing told", new BladePairs().swap(0, gain), NONE);
        }
    }

    /** A FORGE whose PAIRS settle so late that, left for later ones by turns, they take any number of times up to 374. */
    private static final String RESTLESS = "down 14 2 0 0;down 11 3 0 0;down 13 2 0 0;down 5 3 0 0;down 3 2 0 0;down 1 1 0 0;"
            + "up 6 0 0 1;up 8 1 0 1;up 7 0 0 0;up 6 1 0 0;up 3 1 0 0;up 2 1 0 0;";

    private static void settles(int due, int... ups) {
        BladePairs x = Check.forge(RESTLESS + Edges.rivets(ups));
        Check.due("SETTLES of " + Arrays.toString(ups), x.settles(0), due);
    }

    @Says(promise = 31, words = {"how many times, till the PAIRS stand (NONE: not in 100 times)", "NONE: not in 100 times, or there is none such."})
    static void settlesIn100TimesAndNotIn101() {
        settles(0, 0, 1, 2, 3, 4, 5);
        settles(1, NONE, 1, 2, 3, 4, 5);
        settles(2, 1, 0, 2, 3, 4, 5);
        settles(98, 0, 2, NONE, 3, 5, 4);
        settles(99, NONE, 2, NONE, 3, 5, 4);
        settles(100, 2, 1, NONE, 3, 5, 4);
        settles(NONE, 0, 1, NONE, 3, 5, 4);
        settles(NONE, 0, 1, 3, 2, 5, 4);
        settles(NONE, NONE, NONE, 0);
        BladePairs x = Check.forge("");
        Check.due("no BLADES", x.settles(0), 0);
        for (int f : Edges.beyond(0, 0)) {
            Check.due("FORGE " + f, x.settles(f), NONE);
        }
        Check.due("nothing told", new BladePairs().settles(0), NONE);
    }

    @Says(promise = 33, words = {"HIRE: whom a DOWN has (wage false; NONE: he left), or the WAGE of an UP of that number.",
        "-2: there is none such (of either)."})
    static void hireOfNoSuch() {
        for (int downs = 0; downs <= 6; downs += 2) {
            int ups = 6 - downs;
            BladePairs x = Check.forge(Edges.alike(downs, ups));
            for (int k = -2; k <= 7; k++) {
                Check.due("DOWN " + k + " of " + downs, x.hire(0, k, false) == -2, k < 0 || k >= downs);
                Check.due("UP " + k + " of " + ups, x.hire(0, k, true) == -2, k < 0 || k >= ups);
            }
            for (int far : new int[] {Integer.MIN_VALUE, Integer.MAX_VALUE}) {
                Check.due("DOWN " + far, x.hire(0, far, false), -2);
                Check.due("UP " + far, x.hire(0, far, true), -2);
                Check.due("FORGE " + far, x.hire(far, 0, false), -2);
                Check.due("FORGE " + far, x.hire(far, 0, true), -2);
            }
            Check.due("FORGE -1", x.hire(-1, 0, false), -2);
            Check.due("FORGE 1", x.hire(1, 0, true), -2);
        }
        Check.due("nothing told", new BladePairs().hire(0, 0, false), -2);
        Check.due("nothing told", new BladePairs().hire(0, 0, true), -2);
    }

    private static void hire(String forge, int[] got, int... wages) {
        BladePairs x = Check.forge(forge);
        for (int d = 0; d < got.length; d++) {
            Check.due("whom DOWN " + d + " has in " + forge, x.hire(0, d, false), got[d]);
        }
        for (int u = 0; u < wages.length; u++) {
            Check.due("WAGE " + u + " in " + forge, x.hire(0, u, true), wages[u]);
        }
    }

    @Says(promise = 33, words = "looks for the UP for whom FIT less WAGE is greatest, of several the least; if that is below 0, or there are no "
        + "UPS, he leaves; else, if nobody has her, he has her; if somebody has, her WAGE is 1 more, and he has her (the other one none)")
    static void hireTillItIsBelow0() {
        hire(Edges.alike(6, 0), new int[] {NONE, NONE, NONE, NONE, NONE, NONE});
        hire(Edges.alike(0, 6), new int[] {}, 0, 0, 0, 0, 0, 0);
        hire(Edges.alike(1, 6), new int[] {0}, 0, 0, 0, 0, 0, 0);
        // 0 is not below 0: he has her; then her WAGE is 1, and the first one leaves
        hire(STRANGERS, new int[] {0}, 0);
        hire("down 1 0 0 0;down 1 0 0 0;up 20 0 0 0;", new int[] {NONE, 0}, 1);
        hire("down 1 0 0 0;down 1 0 0 0;down 1 0 0 0;up 20 0 0 0;", new int[] {NONE, 0, NONE}, 1);
        // FIT 30: by turns up to 31, so that 30 less WAGE is below 0
        hire(Edges.alike(2, 1), new int[] {NONE, 0}, 31);
        hire(Edges.alike(6, 1), new int[] {NONE, 0, NONE, NONE, NONE, NONE}, 31);
        // an UP of FIT 0 for 0 is taken when the other's WAGE has come to 31
        hire(Edges.alike(2, 1) + "up 20 3 0 1;", new int[] {1, 0}, 31, 0);
        // who has left is out of it: the next ones bid on
        hire("down 1 0 0 0;down 1 0 0 0;down 20 0 0 0;up 20 0 0 0;", new int[] {NONE, NONE, 0}, 2);
        hire("down 1 0 0 0;down 1 0 0 0;down 1 0 0 0;down 1 0 0 0;down 1 0 0 0;down 20 0 0 0;up 20 0 0 0;",
                new int[] {NONE, NONE, NONE, NONE, NONE, 0}, 2);
        // FIT less WAGE: UP 1 is better by 2, till her WAGE is 2; of like ones the least then
        hire("down 5 0 0 0;down 5 0 0 0;up 6 0 0 0;up 5 0 0 0;", new int[] {1, 0}, 0, 2);
        hire("down 5 0 0 0;down 5 0 0 0;up 5 0 0 0;up 6 0 0 0;", new int[] {1, 0}, 3, 0);
        // of like ones the least, though somebody has her and nobody the other
        hire(Edges.alike(2, 2), new int[] {1, 0}, 1, 0);
    }

    @Says(promise = 34, words = {"LINE of n generations, 0 .. 9", "NONE: there is none such, another n, or for another what."})
    static void lineOfNoSuch() {
        BladePairs x = Check.forge(Edges.alike(6, 6));
        int[] due = {6, 180, 30};
        for (int n = 0; n <= 9; n++) {
            for (int what = 0; what <= 2; what++) {
                Check.due("line(0, " + n + ", " + what + ")", x.line(0, n, what), due[what]);
            }
        }
        for (int what = 0; what <= 2; what++) {
            for (int n : Edges.beyond(0, 9)) {
                Check.due("n " + n, x.line(0, n, what), NONE);
            }
            for (int f : Edges.beyond(0, 0)) {
                Check.due("FORGE " + f, x.line(f, 0, what), NONE);
            }
            Check.due("nothing told", new BladePairs().line(0, 0, what), NONE);
        }
        for (int what : Edges.beyond(0, 2)) {
            Check.due("what " + what, x.line(0, 0, what), NONE);
            Check.due("what " + what, x.line(0, 9, what), NONE);
        }
    }

    private static void line(String forge, int n, int downs, int fits, int lengths) {
        BladePairs x = Check.forge(forge);
        Check.due("DOWNS of " + n + " by " + forge, x.line(0, n, 0), downs);
        Check.due("FITS of " + n + " by " + forge, x.line(0, n, 1), fits);
        Check.due("LENGTHS of " + n + " by " + forge, x.line(0, n, 2), lengths);
    }

    @Says(promise = 34, words = "LENGTH of both the half of both of theirs together (cut), EDGE of both 10; STEEL and HAND of the son are his "
        + "father's, those of the daughter her mother's")
    static void lineOfTheShortestAndTheLongest() {
        line("down 1 0 0 0;up 1 0 0 0;", 9, 1, 30, 1);
        line("down 1 0 0 0;up 2 0 0 0;", 0, 1, 28, 1);
        line("down 1 0 0 0;up 2 0 0 0;", 1, 1, 30, 1);
        line("down 2 0 0 0;up 1 0 0 0;", 1, 1, 30, 1);
        line("down 2 0 0 0;up 2 0 0 0;", 1, 1, 30, 2);
        line("down 20 0 0 0;up 20 0 0 0;", 9, 1, 30, 20);
        line("down 19 0 0 0;up 20 0 0 0;", 1, 1, 30, 19);
        line("down 1 0 0 0;up 20 3 0 1;", 0, 1, 0, 1);
        line("down 1 0 0 0;up 20 3 0 1;", 1, 1, 3, 10);
        line("down 1 0 0 0;up 20 3 0 1;", 9, 1, 3, 10);
    }

    @Says(promise = 34, words = "sons are DOWNS, daughters UPS then, by fathers' numbers; all others are no more; so n times")
    static void lineOfThoseWithoutAnybody() {
        line("", 0, 0, 0, 0);
        line("", 9, 0, 0, 0);
        line(Edges.alike(6, 0), 0, 6, 0, 30);
        line(Edges.alike(6, 0), 1, 0, 0, 0);
        line(Edges.alike(6, 0), 9, 0, 0, 0);
        line(Edges.alike(0, 6), 0, 0, 0, 0);
        line(Edges.alike(0, 6), 1, 0, 0, 0);
        line(Edges.alike(6, 1), 0, 6, 30, 30);
        line(Edges.alike(6, 1), 1, 1, 30, 5);
        line(Edges.alike(1, 6), 1, 1, 30, 5);
        // PAIRS that are told do not count
        line(TWINS + Edges.rivets(1, 2, 3, 4, 5, 0), 0, 6, 180, 51);
        line(TWINS + Edges.rivets(1, 2, 3, 4, 5, 0), 1, 6, 180, 51);
    }
}

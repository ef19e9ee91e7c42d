/** Promises 7, 11 to 15, 20, 22 to 34 by FORGES reckoned out by hand, and their wrong inputs. */
public final class HandTest {
    private static final int NONE = BladePairs.NONE;

    public static void main(String[] args) {
        BladePairs x = Check.forge(Check.FORGE);
        fits(x);
        rows(x);
        trades(x);
        cloths(x);
        clues(x);
        lines(x);
        secondForge();
        emptyForge();
        wrongInputs(x);
        Check.end();
    }

    private static void fits(BladePairs x) {
        int[] fits = {28, 23, 7, 23, 24, 0, 5, 4, 30};
        int[] powers = {42, 35, 24, 34, 33, 14, 21, 18, 49};
        for (int i = 0; i < 9; i++) {
            Check.due("fit " + i, x.fit(0, i / 3, i % 3, false), fits[i]);
            Check.due("power " + i, x.fit(0, i / 3, i % 3, true), powers[i]);
        }
        Check.due("trued", x.trued(0, 0, 0, false), 1);
        Check.due("trued best", x.trued(0, 0, 0, true), 30);
        Check.due("trued", x.trued(0, 1, 2, false), 5);
        Check.due("trued best", x.trued(0, 1, 2, true), 8);
        Check.due("trued alike", x.trued(0, 2, 2, false), 0);
        Check.due("tips", x.tips(0), 0);
        Check.due("lone", x.lone(0), 14);
        Check.due("rank 0", x.rank(0, 0), 0);
        Check.due("rank 1", x.rank(0, 1), 1);
        Check.due("rank 2", x.rank(0, 2), NONE);
    }

    private static void rows(BladePairs x) {
        Check.due("leaving as told", x.leaving(0, 0), 3);
        for (int how = 1; how <= 5; how++) {
            Check.due("leaving " + how, x.leaving(0, how), 0);
            Check.due("row NONE", x.row(0, how, NONE), 3);
            for (int d = 0; d < 3; d++) {
                Check.due("row " + how + " " + d, x.row(0, how, d), d);
            }
            Check.due("to be parted", x.moves(0, how, false), 2);
            Check.due("to be riveted", x.moves(0, how, true), 3);
        }
        Check.due("changed", x.rows(0, 0), 3);
        Check.due("best", x.rows(0, 1), 82);
        Check.due("unlike", x.rows(0, 2), 24);
        Check.due("standing", x.rows(0, 3), 1);
        Check.due("settles", x.settles(0), 3);
        // BEST gives up the best couple: 30 and 0 against 28 and 28; UNLIKE likewise
        BladePairs y = Check.forge("down 10 0 0 0;down 11 0 0 0;up 10 0 0 0;up 9 0 0 0;");
        Check.due("asked", y.row(0, 1, 0), 0);
        Check.due("best sum", y.rows(0, 1), 56);
        Check.due("best is the first by numbers", y.row(0, 4, 0), 0);
        Check.due("unlike", y.rows(0, 2), 28);
        Check.due("unlike row", y.row(0, 5, 0), 1);
        Check.due("unlike row", y.row(0, 5, 1), 0);
        Check.due("leaving of unlike", y.leaving(0, 5), 1);
        // FIT 0 to all is still better than none, and earlier by numbers
        y = Check.forge("down 1 0 0 0;down 20 0 0 1;up 20 0 0 1;up 20 0 0 1;");
        Check.due("best", y.rows(0, 1), 30);
        Check.due("best row 0", y.row(0, 4, 0), 0);
        Check.due("best row 1", y.row(0, 4, 1), 1);
        Check.due("unlike FIT", y.rows(0, 2), 0);
        Check.due("asked row 0", y.row(0, 1, 0), 1);
        Check.due("asked row 1", y.row(0, 1, 1), 0);
        // one DOWN too many: the least number of like ones is liked best
        y = Check.forge("down 5 0 0 0;down 5 0 0 0;up 5 0 0 0;rivet 1 0;");
        Check.due("asked 0", y.row(0, 1, 0), 0);
        Check.due("asked 1", y.row(0, 1, 1), 6);
        Check.due("asked NONE", y.row(0, 1, NONE), 1);
        Check.due("changed", y.rows(0, 0), 2);
        Check.due("leaving", y.leaving(0, 0), 1);
        Check.due("parted", y.moves(0, 3, false), 1);
        Check.due("riveted", y.moves(0, 3, true), 1);
        Check.due("settles", y.settles(0), 1);
    }

    private static void trades(BladePairs x) {
        Check.due("trade 0", x.trade(0, 0), 0);
        Check.due("trade 1", x.trade(0, 1), 1);
        Check.due("trade 2", x.trade(0, 2), NONE);
        Check.due("rings", x.rings(0, false), 1);
        Check.due("rings other", x.rings(0, true), 2);
        Check.due("swap", x.swap(0, false), 1);
        Check.due("swap gain", x.swap(0, true), 6);
        for (int d = 0; d < 3; d++) {
            Check.due("hire " + d, x.hire(0, d, false), d);
            Check.due("wage " + d, x.hire(0, d, true), 0);
        }
        // both like UP 0 best, who is with DOWN 0: two rings of one
        BladePairs y = Check.forge("down 5 0 0 0;down 5 0 0 0;up 5 0 0 0;up 5 0 0 0;rivet 0 0;rivet 1 1;");
        Check.due("rings of one", y.rings(0, false), 2);
        Check.due("nobody has another one", y.rings(0, true), 0);
        Check.due("no swap", y.swap(0, false), NONE);
        Check.due("no gain", y.swap(0, true), NONE);
        Check.due("tips", y.tips(0), 2);
        Check.due("rank of like ones", y.rank(0, 0), 0);
    }

    private static void cloths(BladePairs x) {
        Check.due("works", x.works(0, NONE), 12);
        Check.due("cloth 0", x.works(0, 0), 1);
        Check.due("cloth 1", x.works(0, 1), 6);
        Check.due("cloth 2", x.works(0, 2), 0);
        Check.due("crew", x.crew(0), NONE);
        Check.due("idle 0 0", x.idle(0, 0, 0), 2);
        Check.due("idle 1 0", x.idle(0, 1, 0), 2);
        Check.due("idle 0 2", x.idle(0, 0, 2), 0);
        Check.due("idle 0 1", x.idle(0, 0, 1), NONE);
        Check.due("idle 2 0", x.idle(0, 2, 0), NONE);
        Check.due("share 0", x.share(0, 0, false), 19);
        Check.due("share 0 under", x.share(0, 0, true), 2);
        Check.due("share 1", x.share(0, 1, false), 5);
        Check.due("share 1 under", x.share(0, 1, true), 2);
        Check.due("share 2", x.share(0, 2, false), NONE);
        // any cut on day 4 makes it too blunt for day 5; a PRICE of 0 is cut all the same, 0 being less than 6
        BladePairs y = Check.forge("down 5 0 1 0;up 5 0 0 0;rivet 0 0;cloth 31 9 5;cloth 31 8 4;cloth 30 3 4;cloth 30 0 6;");
        Check.due("works", y.works(0, NONE), 9);
        Check.due("cloth 0", y.works(0, 0), 0);
        Check.due("cloth 1", y.works(0, 1), 6);
        Check.due("cloth 2", y.works(0, 2), 6);
        Check.due("cloth 3", y.works(0, 3), 0);
    }

    private static void clues(BladePairs x) {
        Check.tell(x, 2, NONE, "long 21;left no 1;");
        Check.due("whose", x.whose(0, 0, 0), 2);
        Check.due("sure down", x.whose(0, 0, 1), NONE);
        Check.due("sure up", x.whose(0, 0, 2), NONE);
        Check.due("next", x.whose(0, 0, 3), 1);
        Check.due("0th", x.whose(0, 0, 10), 0);
        Check.due("1st", x.whose(0, 0, 11), 7);
        Check.due("2nd", x.whose(0, 0, 12), -2);
        Check.tell(x, 2, NONE, "left 2;");
        Check.due("whose", x.whose(0, 1, 0), 1);
        Check.due("sure down", x.whose(0, 1, 1), 2);
        Check.due("sure up", x.whose(0, 1, 2), 2);
        Check.due("next", x.whose(0, 1, 3), 0);
        Check.due("0th", x.whose(0, 1, 10), 14);
        Check.tell(x, 2, 1, "left 2;left 1;");
        Check.due("nobody", x.whose(0, 1, 0), 0);
        Check.due("nobody sure", x.whose(0, 1, 1), NONE);
        Check.due("nobody sure", x.whose(0, 1, 2), NONE);
        Check.due("no next", x.whose(0, 1, 3), NONE);
        Check.due("no 0th", x.whose(0, 1, 10), -2);
        Check.tell(x, 2, 1, "left 1;apart 4;");
        Check.due("whose", x.whose(0, 1, 0), 1);
        Check.due("2 and 0", x.whose(0, 1, 10), 12);
    }

    private static void lines(BladePairs x) {
        int[][] wants = {{3, 82, 29}, {3, 90, 27}, {3, 90, 27}};
        for (int n = 0; n < 3; n++) {
            for (int what = 0; what < 3; what++) {
                Check.due("line " + n + " " + what, x.line(0, n, what), wants[n][what]);
            }
        }
        // STEEL and HAND go from father to son, from mother to daughter, so they stay apart
        BladePairs y = Check.forge("down 5 0 0 0;down 1 0 0 0;up 8 3 0 1;");
        Check.due("DOWNS", y.line(0, 0, 0), 2);
        Check.due("FITS", y.line(0, 0, 1), 0);
        Check.due("LENGTHS", y.line(0, 0, 2), 6);
        Check.due("DOWNS", y.line(0, 9, 0), 1);
        Check.due("FITS", y.line(0, 9, 1), 3);
        Check.due("LENGTHS", y.line(0, 9, 2), 6);
    }

    private static void secondForge() {
        BladePairs x = Check.forge("down 5 0 20 0;down 5 0 20 0;up 5 0 0 0;cloth 40 3 2;rivet 0 0;");
        Check.due("he left", x.hire(0, 0, false), NONE);
        Check.due("he has her", x.hire(0, 1, false), 0);
        Check.due("wage", x.hire(0, 0, true), 31);
        Check.due("crew", x.crew(0), 1);
        Check.due("idle", x.idle(0, 0, 0), 10);
        Check.due("share", x.share(0, 0, false), 3);
        Check.due("share under", x.share(0, 0, true), 1);
        Check.due("lone", x.lone(0), NONE);
        Check.due("tips", x.tips(0), 1);
        Check.due("settles", x.settles(0), 0);
        BladePairs y = Check.forge("down 5 0 20 0;down 5 0 20 0;up 5 0 0 0;up 5 0 0 0;cloth 30 3 2;cloth 50 0 0;"
                + "rivet 0 1;rivet 1 0;");
        Check.due("idle for ever", y.idle(0, 0, 0), 99);
        Check.due("of several the least", y.crew(0), 1);
        Check.due("share", y.share(0, 0, false), 3);
        Check.due("share under", y.share(0, 0, true), 2);
        BladePairs z = Check.forge("down 5 0 0 0;up 5 0 0 0;cloth 70 3 2;rivet 0 0;");
        Check.due("nothing", z.share(0, 0, false), 0);
        Check.due("by one", z.share(0, 0, true), 1);
    }

    private static void emptyForge() {
        BladePairs x = Check.forge("");
        Check.tell(x, 2, NONE, "");
        for (int how = 0; how <= 5; how++) {
            Check.due("leaving", x.leaving(0, how), 0);
        }
        Check.due("row", x.row(0, 1, NONE), 0);
        Check.due("changed", x.rows(0, 0), 0);
        Check.due("best", x.rows(0, 1), 0);
        Check.due("unlike", x.rows(0, 2), NONE);
        Check.due("standing", x.rows(0, 3), 1);
        Check.due("works", x.works(0, NONE), 0);
        Check.due("crew of no CLOTHS", x.crew(0), 0);
        Check.due("rings", x.rings(0, false), 0);
        Check.due("rings other", x.rings(0, true), 0);
        Check.due("tips", x.tips(0), 0);
        Check.due("settles", x.settles(0), 0);
        Check.due("line", x.line(0, 9, 1), 0);
        Check.due("lone", x.lone(0), NONE);
        Check.due("whose", x.whose(0, 0, 0), 0);
        Check.due("next", x.whose(0, 0, 3), NONE);
        // without UPS a DOWN leaves
        x = Check.forge("down 5 0 0 0;");
        Check.due("hire", x.hire(0, 0, false), NONE);
        Check.due("row", x.row(0, 5, 0), 6);
        Check.due("unlike", x.rows(0, 2), NONE);
        Check.due("standing", x.rows(0, 3), 1);
        Check.due("line", x.line(0, 0, 0), 1);
        Check.due("line", x.line(0, 1, 0), 0);
    }

    private static void wrongInputs(BladePairs x) {
        int[] noForge = {-1, 1, 2, Integer.MIN_VALUE, Integer.MAX_VALUE};
        for (int f : noForge) {
            Check.due("leaving", x.leaving(f, 0), NONE);
            Check.due("row", x.row(f, 1, 0), NONE);
            Check.due("rows", x.rows(f, 0), NONE);
            Check.due("trade", x.trade(f, 0), NONE);
            Check.due("works", x.works(f, NONE), NONE);
            Check.due("whose", x.whose(f, 0, 0), -2);
            Check.due("crew", x.crew(f), NONE);
            Check.due("moves", x.moves(f, 1, true), NONE);
            Check.due("rings", x.rings(f, true), NONE);
            Check.due("lone", x.lone(f), NONE);
            Check.due("rank", x.rank(f, 0), NONE);
            Check.due("tips", x.tips(f), NONE);
            Check.due("swap", x.swap(f, true), NONE);
            Check.due("settles", x.settles(f), NONE);
            Check.due("share", x.share(f, 0, true), NONE);
            Check.due("hire", x.hire(f, 0, true), -2);
            Check.due("line", x.line(f, 0, 0), NONE);
        }
        int[] others = {-2, 6, 7, Integer.MIN_VALUE, Integer.MAX_VALUE};
        for (int n : others) {
            Check.due("leaving how", x.leaving(0, n), NONE);
            Check.due("row how", x.row(0, n, 0), NONE);
            Check.due("row k", x.row(0, 1, n), NONE);
            Check.due("rows what", x.rows(0, n), NONE);
            Check.due("trade", x.trade(0, n), NONE);
            Check.due("works", x.works(0, n), NONE);
            Check.due("whose clues", x.whose(0, n, 0), -2);
            Check.due("whose what", x.whose(0, 0, n), -2);
            Check.due("idle", x.idle(0, n, 0), NONE);
            Check.due("idle", x.idle(0, 0, n), NONE);
            Check.due("moves", x.moves(0, n, true), NONE);
            Check.due("rank", x.rank(0, n), NONE);
            Check.due("trued", x.trued(0, n, 0, true), NONE);
            Check.due("trued", x.trued(0, 0, n, true), NONE);
            Check.due("fit", x.fit(0, n, 0, true), NONE);
            Check.due("fit", x.fit(0, 0, n, true), NONE);
            Check.due("share", x.share(0, n, false), NONE);
            Check.due("hire", x.hire(0, n, false), -2);
            Check.due("line what", x.line(0, 0, n), NONE);
        }
        Check.due("row how 0", x.row(0, 0, 0), NONE);
        Check.due("moves how 0", x.moves(0, 0, true), NONE);
        Check.due("rows 4", x.rows(0, 4), NONE);
        Check.due("whose 4", x.whose(0, 0, 4), -2);
        Check.due("whose 9", x.whose(0, 0, 9), -2);
        Check.due("line n", x.line(0, 10, 0), NONE);
        Check.due("line n", x.line(0, -1, 0), NONE);
        Check.due("line what 3", x.line(0, 0, 3), NONE);
    }
}

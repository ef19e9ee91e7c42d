/** The edges of promises 15, 22, 23 and 32: WORKS, CREW, IDLE, SHARE. */
public final class EdgeClothTest {
    private static final int NONE = BladePairs.NONE;

    public static void main(String[] args) {
        Edges.run(EdgeClothTest.class);
    }

    /** PAIRS of FIT 30 by the EDGES of their DOWNS, UPS' EDGES being 0. */
    private static String pairs(int... edges) {
        StringBuilder s = new StringBuilder();
        for (int d = 0; d < edges.length; d++) {
            s.append("down 5 0 ").append(edges[d]).append(" 0;up 5 0 0 0;rivet ").append(d).append(' ').append(d).append(';');
        }
        return s.toString();
    }

    private static void works(String forge, int prices, int... cutters) {
        BladePairs x = Check.forge(forge);
        Check.due("WORKS of " + forge, x.works(0, NONE), prices);
        for (int c = 0; c < cutters.length; c++) {
            Check.due("who cuts CLOTH " + c + " of " + forge, x.works(0, c), cutters[c]);
        }
    }

    @Says(promise = 15, words = {"WORKS: the PRICES (k NONE), or who cuts CLOTH k.", "NONE: there is none such (of either)."})
    static void worksOfNoSuch() {
        for (int cloths = 0; cloths <= 6; cloths += 3) {
            BladePairs x = Check.forge(pairs(0) + "cloth 70 1 0;".repeat(cloths));
            Check.due("PRICES", x.works(0, NONE), 0);
            for (int k = 0; k < 7; k++) {
                Check.due("CLOTH " + k + " of " + cloths, x.works(0, k), k < cloths ? 6 : NONE);
            }
            for (int k : new int[] {Integer.MIN_VALUE, -2, Integer.MAX_VALUE}) {
                Check.due("CLOTH " + k + " of " + cloths, x.works(0, k), NONE);
            }
            for (int f : Edges.beyond(0, 0)) {
                Check.due("FORGE " + f, x.works(f, NONE), NONE);
                Check.due("FORGE " + f, x.works(f, 0), NONE);
            }
        }
        Check.due("nothing told", new BladePairs().works(0, NONE), NONE);
        Check.due("nothing told", new BladePairs().works(0, 0), NONE);
    }

    @Says(promise = 15, words = "WORKS: which PAIR (its DOWN) cuts which CLOTH, none, or one")
    static void worksWithoutPairsAndWithAsManyAsMayBe() {
        works("", 0);
        works("cloth 1 20 0;", 0, 6);
        works(Edges.alike(6, 6) + "cloth 1 20 0;cloth 1 20 1;", 0, 6, 6);
        works(pairs(20, 20, 20, 20, 20, 20), 0);
        works(pairs(0, 0, 0, 0, 0, 0) + "cloth 30 20 0;".repeat(6), 120, 0, 1, 2, 3, 4, 5);
        works(pairs(0, 0, 0, 0, 0) + "cloth 30 20 0;".repeat(6), 100, 0, 1, 2, 3, 4, 6);
        // the last DOWN alone
        works(Edges.alike(6, 6) + "rivet 5 0;cloth 30 3 9;", 3, 5);
    }

    @Says(promise = 15, words = "They cut a CLOTH, if POWER is HARD or more.")
    static void worksByJustThePower() {
        works(pairs(0) + "cloth 30 3 0;", 3, 0);
        works(pairs(0) + "cloth 31 3 0;", 0, 6);
        works(pairs(1) + "cloth 31 3 0;", 3, 0);
        works("down 5 0 20 0;up 5 0 20 0;rivet 0 0;cloth 70 20 9;", 20, 0);
        works("down 5 0 20 0;up 5 0 19 0;rivet 0 0;cloth 70 20 9;", 0, 6);
        works("down 1 0 0 0;up 20 0 0 0;rivet 0 0;cloth 1 20 9;", 0, 6);
        works("down 1 0 1 0;up 20 0 0 0;rivet 0 0;cloth 1 20 9;", 20, 0);
    }

    @Says(promise = 15, words = "a PAIR one CLOTH a DAY at most, in order of DAYS (of one PAIR), EDGES being 1 less (0 at least) behind each")
    static void worksDayByDay() {
        // one a DAY: the dearer one, of like ones the first
        works(pairs(9) + "cloth 1 3 4;cloth 1 4 4;", 4, 6, 0);
        works(pairs(9) + "cloth 1 4 4;cloth 1 3 4;", 4, 0, 6);
        works(pairs(9) + "cloth 1 4 4;cloth 1 4 4;", 4, 0, 6);
        works(pairs(9) + "cloth 1 4 0;cloth 1 4 9;", 8, 0, 0);
        // EDGES 1 less behind each, both of them
        works("down 5 0 1 0;up 5 0 1 0;rivet 0 0;cloth 32 3 0;cloth 30 4 1;cloth 30 5 2;", 12, 0, 0, 0);
        works("down 5 0 1 0;up 5 0 1 0;rivet 0 0;cloth 32 3 0;cloth 31 4 1;cloth 30 5 2;", 9, 6, 0, 0);
        works("down 5 0 2 0;up 5 0 1 0;rivet 0 0;cloth 33 3 0;cloth 31 4 1;cloth 30 5 2;", 12, 0, 0, 0);
        works("down 5 0 2 0;up 5 0 1 0;rivet 0 0;cloth 33 3 0;cloth 32 4 1;cloth 30 5 2;", 9, 6, 0, 0);
        // 0 at least: six on six DAYS without any EDGE
        works(pairs(0) + "cloth 30 1 5;cloth 30 2 4;cloth 30 3 3;cloth 30 4 2;cloth 30 5 1;cloth 30 6 0;", 21, 0, 0, 0, 0, 0, 0);
        // in order of DAYS, not of numbers
        works(pairs(1) + "cloth 30 3 8;cloth 31 4 7;", 7, 0, 0);
        works(pairs(1) + "cloth 30 3 7;cloth 31 4 8;", 4, 6, 0);
        works(pairs(1) + "cloth 31 4 8;cloth 30 3 7;", 4, 0, 6);
        // what is cut by others does not wear a PAIR
        works(pairs(1, 1) + "cloth 31 4 8;cloth 31 3 7;", 7, 0, 1);
    }

    @Says(promise = 15, words = "the most PRICES together; the row by CLOTHS of DOWNS (6: none), the first by numbers")
    static void worksOfSeveralTheFirst() {
        works(pairs(0, 0) + "cloth 30 0 0;", 0, 0);
        works(pairs(0, 0) + "cloth 30 0 0;cloth 30 0 0;cloth 30 0 0;", 0, 0, 1, 6);
        works(pairs(0, 0) + "cloth 30 5 0;cloth 30 5 1;", 10, 0, 0);
        works(pairs(0, 1) + "cloth 31 5 0;cloth 30 5 0;", 10, 1, 0);
        works(pairs(1, 0) + "cloth 30 5 0;cloth 31 5 0;", 10, 1, 0);
        // a CLOTH of PRICE 0 is cut where that takes nothing away from the others
        works(pairs(1) + "cloth 31 0 0;cloth 31 1 1;", 1, 6, 0);
        works(pairs(2) + "cloth 31 0 0;cloth 31 1 1;", 1, 0, 0);
    }

    @Says(promise = 15, words = "the most PRICES together")
    static void worksGivesUpALittleForMuch() {
        // what comes first in order of numbers is not the most, wherever the dear CLOTH is
        works(pairs(9) + "cloth 1 1 9;cloth 1 20 9;", 20, 6, 0);
        works(pairs(9) + "cloth 1 1 9;cloth 1 20 9;cloth 70 20 0;", 20, 6, 0, 6);
        works(pairs(9) + "cloth 1 1 9;cloth 1 20 9;cloth 70 0 0;", 20, 6, 0, 6);
        works(pairs(9) + "cloth 1 3 0;cloth 1 3 1;cloth 1 3 2;cloth 1 3 3;cloth 1 1 9;cloth 1 20 9;", 32, 0, 0, 0, 0, 6, 0);
        works(pairs(9) + "cloth 1 1 9;cloth 1 2 9;cloth 1 3 9;cloth 1 4 9;cloth 1 5 9;cloth 1 6 9;", 6, 6, 6, 6, 6, 6, 0);
        works(pairs(0, 9) + "cloth 1 1 9;cloth 1 1 9;cloth 39 20 9;", 21, 0, 6, 1);
        works(pairs(1) + "cloth 30 9 0;cloth 30 9 1;cloth 31 20 2;", 20, 6, 6, 0);
        works(pairs(1) + "cloth 30 10 0;cloth 30 10 1;cloth 31 20 2;", 20, 0, 0, 6);
        works(pairs(1) + "cloth 30 10 0;cloth 30 11 1;cloth 31 20 2;", 21, 0, 0, 6);
    }

    private static void crew(String forge, int due) {
        Check.due("CREW of " + forge, Check.forge(forge).crew(0), due);
    }

    @Says(promise = 22, words = {"NONE: by none, or there is none such.", "CREW: the fewest PAIRS (bits of DOWNS; of several the least) of whom "
        + "for each CLOTH one at least cuts it, EDGES as told."})
    static void crewByNoneAndByFew() {
        // no CLOTHS: nobody is needed
        crew("", 0);
        crew(Edges.alike(6, 6), 0);
        crew(pairs(20, 20, 20, 20, 20, 20), 0);
        // no PAIRS
        crew("cloth 1 0 0;", NONE);
        crew(Edges.alike(6, 6) + "cloth 1 0 0;", NONE);
        // just cut, just not cut
        crew(pairs(0) + "cloth 30 0 0;", 1);
        crew(pairs(0) + "cloth 31 0 0;", NONE);
        crew(pairs(1) + "cloth 31 0 0;", 1);
        crew(pairs(0) + "cloth 30 0 0;cloth 31 0 0;", NONE);
        // of several the least, and the last alone
        crew(pairs(3, 3, 3, 3, 3, 3) + "cloth 33 0 0;".repeat(6), 1);
        crew(pairs(0, 1, 2, 2, 1, 0) + "cloth 1 0 0;cloth 32 0 0;", 4);
        crew(pairs(0, 0, 0, 0, 0, 1) + "cloth 31 0 0;cloth 30 0 0;", 32);
        // EDGES as told: he cuts all of one DAY, too
        crew(pairs(1) + "cloth 31 0 4;".repeat(6), 1);
        BladePairs x = Check.forge("");
        for (int f : Edges.beyond(0, 0)) {
            Check.due("FORGE " + f, x.crew(f), NONE);
        }
        Check.due("nothing told", new BladePairs().crew(0), NONE);
    }

    private static void idle(String forge, int due) {
        Check.due("IDLE of " + forge, Check.forge(forge + "rivet 0 0;").idle(0, 0, 0), due);
    }

    @Says(promise = 23, words = "how many days they can RUST and still cut it (99 at most)")
    static void idleFrom0To99() {
        idle("down 5 0 0 0;up 5 0 0 0;cloth 31 0 0;", NONE);
        idle("down 5 0 0 0;up 5 0 0 0;cloth 30 0 0;", 99);
        idle("down 5 0 20 0;up 5 0 20 0;cloth 1 0 0;", 99);
        idle("down 5 0 20 0;up 5 0 20 0;cloth 30 0 0;", 99);
        idle("down 5 0 1 0;up 5 0 0 0;cloth 31 0 0;", 0);
        idle("down 5 0 1 0;up 5 0 1 0;cloth 32 0 0;", 0);
        idle("down 5 0 1 0;up 5 0 1 0;cloth 31 0 0;", 0);
        idle("down 5 0 2 0;up 5 0 2 0;cloth 33 0 0;", 0);
        idle("down 5 0 2 0;up 5 0 2 0;cloth 32 0 0;", 1);
        idle("down 5 0 20 0;up 5 0 20 0;cloth 70 0 0;", 0);
        idle("down 5 0 20 0;up 5 0 20 0;cloth 31 0 0;", 19);
        // one EDGE is at 0 long before the other
        idle("down 5 0 20 0;up 5 0 0 0;cloth 31 0 0;", 19);
        idle("down 5 0 0 0;up 5 0 20 0;cloth 50 0 0;", 0);
        idle("down 5 0 1 0;up 5 0 20 0;cloth 40 0 0;", 10);
        idle("down 1 0 0 0;up 20 0 1 0;cloth 1 0 0;", 0);
        idle("down 1 0 0 0;up 20 0 20 0;cloth 1 0 0;", 19);
    }

    @Says(promise = 23, words = "NONE: they can't cut it now, he is in no PAIR, or there is none such (of any).")
    static void idleOfNoSuch() {
        BladePairs x = Check.forge(pairs(0, 1) + "down 5 0 20 0;up 5 0 20 0;cloth 31 0 0;cloth 30 0 0;");
        int[][] due = {{NONE, 99}, {0, 99}, {NONE, NONE}};
        for (int d = -2; d <= 7; d++) {
            for (int c = -2; c <= 7; c++) {
                boolean there = d >= 0 && d < 3 && c >= 0 && c < 2;
                Check.due("idle(0, " + d + ", " + c + ")", x.idle(0, d, c), there ? due[d][c] : NONE);
            }
        }
        for (int far : new int[] {Integer.MIN_VALUE, Integer.MAX_VALUE}) {
            Check.due("DOWN " + far, x.idle(0, far, 1), NONE);
            Check.due("CLOTH " + far, x.idle(0, 1, far), NONE);
        }
        for (int f : Edges.beyond(0, 0)) {
            Check.due("FORGE " + f, x.idle(f, 1, 1), NONE);
        }
        Check.due("nothing told", new BladePairs().idle(0, 0, 0), NONE);
        Check.due("nothing in it", Check.forge("").idle(0, 0, 0), NONE);
        BladePairs six = Check.forge(pairs(0, 0, 0, 0, 0, 0) + "cloth 30 0 0;".repeat(6));
        Check.due("the last of all", six.idle(0, 5, 5), 99);
        Check.due("one behind", six.idle(0, 6, 5), NONE);
        Check.due("one behind", six.idle(0, 5, 6), NONE);
    }

    private static void share(String forge, int down, long above, long below) {
        BladePairs x = Check.forge(forge);
        Check.due("SHARE of " + down + " in " + forge + ", N", x.share(0, down, false), above);
        Check.due("SHARE of " + down + " in " + forge + ", D", x.share(0, down, true), below);
    }

    @Says(promise = 32, words = {"the mean of what they are worth more with it than ahead of it, a fraction in least terms",
        "some PAIRS are worth PRICES of all CLOTHS together that one of them at least cuts, EDGES as told"})
    static void shareOfNothingAndOfAll() {
        // nothing is 0 by 1
        share(pairs(0), 0, 0, 1);
        share(pairs(0) + "cloth 31 20 0;", 0, 0, 1);
        share(pairs(0) + "cloth 30 0 0;", 0, 0, 1);
        share(pairs(0, 0, 0) + "cloth 30 0 0;", 2, 0, 1);
        // alone: all of it
        share(pairs(0) + "cloth 30 20 0;".repeat(6), 0, 120, 1);
        share(pairs(0, 1) + "cloth 31 7 0;", 1, 7, 1);
        share(pairs(0, 1) + "cloth 31 7 0;", 0, 0, 1);
        // two to six: least terms
        share(pairs(0, 0) + "cloth 30 7 0;", 1, 7, 2);
        share(pairs(0, 0) + "cloth 30 8 0;", 1, 4, 1);
        share(pairs(0, 0, 0) + "cloth 30 20 0;", 0, 20, 3);
        share(pairs(0, 0, 0, 0) + "cloth 30 2 0;", 3, 1, 2);
        share(pairs(0, 0, 0, 0, 0) + "cloth 30 19 0;", 4, 19, 5);
        share(pairs(0, 0, 0, 0, 0, 0) + "cloth 30 20 0;", 5, 10, 3);
        share(pairs(0, 0, 0, 0, 0, 0) + "cloth 30 1 0;", 5, 1, 6);
        share(pairs(0, 0, 0, 0, 0, 0) + "cloth 30 20 0;".repeat(6), 5, 20, 1);
        // one CLOTH cut by three, one by four, one by five: 1 by 3, 4, 5 together
        share(pairs(0, 1, 2, 3, 3, 3) + "cloth 33 1 0;cloth 32 1 0;cloth 31 1 0;", 5, 47, 60);
        // and one cut by all six, too: 1 by 6 more
        share(pairs(0, 1, 2, 3, 3, 3) + "cloth 33 1 0;cloth 32 1 0;cloth 31 1 0;cloth 30 1 0;", 5, 19, 20);
        share(pairs(0, 1, 2, 3, 3, 3) + "cloth 33 1 0;cloth 32 1 0;cloth 31 1 0;cloth 30 1 0;", 0, 1, 6);
    }

    @Says(promise = 32, words = "NONE: he is in none, or there is none such (of either).")
    static void shareOfNoSuch() {
        BladePairs x = Check.forge(pairs(0) + "down 5 0 0 0;up 5 0 0 0;cloth 30 4 0;");
        for (boolean under : new boolean[] {false, true}) {
            Check.due("in no PAIR", x.share(0, 1, under), NONE);
            Check.due("in a PAIR", x.share(0, 0, under), under ? 1 : 4);
            for (int d : Edges.beyond(0, 1)) {
                Check.due("DOWN " + d, x.share(0, d, under), NONE);
            }
            Check.due("DOWN 6", x.share(0, 6, under), NONE);
            for (int f : Edges.beyond(0, 0)) {
                Check.due("FORGE " + f, x.share(f, 0, under), NONE);
            }
            Check.due("nothing told", new BladePairs().share(0, 0, under), NONE);
            Check.due("nothing in it", Check.forge("").share(0, 0, under), NONE);
        }
    }
}

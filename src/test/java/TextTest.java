/** Promises 1 to 6, 8, 19, 35 to 37: the tape, texts and their FAULTS, what was told, images. */
public final class TextTest {
    private static final int NONE = BladePairs.NONE;

    public static void main(String[] args) {
        newObject();
        tapeGrowsAndShrinks();
        textsHaveNumbers();
        everyTextTakesTheTape();
        faultsOfSyntax();
        faultsOfNumbers();
        faultsOfMany();
        faultsOfRivets();
        forgesAreTold();
        deedsAreTold();
        cluesAreTold();
        imagesHoldAll();
        Check.end();
    }

    private static void newObject() {
        BladePairs x = new BladePairs();
        for (int sort = 0; sort < 3; sort++) {
            Check.due("count of a new object", x.count(sort), 0);
        }
        Check.due("count(3)", x.count(3), -2);
        Check.due("count(-1)", x.count(-1), -2);
        Check.due("fault(0)", x.fault(0), 0);
        Check.due("fault(1)", x.fault(1), NONE);
        Check.due("fault(2)", x.fault(2), NONE);
        Check.due("fault(-1)", x.fault(-1), NONE);
        for (int k = -1; k < 4; k++) {
            Check.due("again of a new object", x.again(k), false);
        }
        Check.due("forge", x.forge(0, 0), -2);
        Check.due("fit", x.fit(0, 0, 0, false), NONE);
        Check.due("deed", x.deed(0, NONE, 0), -2);
        Check.due("till", x.till(0, 0), NONE);
        Check.due("state", x.state(0, 0, 0, 0), -2);
        Check.due("leaving", x.leaving(0, 0), NONE);
        Check.due("row", x.row(0, 1, NONE), NONE);
        Check.due("rows", x.rows(0, 0), NONE);
        Check.due("trade", x.trade(0, 0), NONE);
        Check.due("works", x.works(0, NONE), NONE);
        Check.due("clue", x.clue(0, NONE, 0), -2);
        Check.due("whose", x.whose(0, 0, 0), -2);
        Check.due("drawn", x.drawn(0, 1, 0, 0), -2);
        Check.due("crew", x.crew(0), NONE);
        Check.due("idle", x.idle(0, 0, 0), NONE);
        Check.due("moves", x.moves(0, 1, true), NONE);
        Check.due("rings", x.rings(0, false), NONE);
        Check.due("lone", x.lone(0), NONE);
        Check.due("rank", x.rank(0, 0), NONE);
        Check.due("trued", x.trued(0, 0, 0, true), NONE);
        Check.due("tips", x.tips(0), NONE);
        Check.due("swap", x.swap(0, true), NONE);
        Check.due("settles", x.settles(0), NONE);
        Check.due("share", x.share(0, 0, true), NONE);
        Check.due("hire", x.hire(0, 0, true), -2);
        Check.due("line", x.line(0, 0, 0), NONE);
    }

    private static void tapeGrowsAndShrinks() {
        BladePairs x = new BladePairs();
        Check.due("end(0)", x.end(0), 0);
        Check.due("end(1)", x.end(1), NONE);
        Check.due("end(-1)", x.end(-1), NONE);
        for (int i = 1; i <= 30; i++) {
            Check.due("feed", x.feed(1, 2, 3, 4, 5), 20 * i);
        }
        Check.due("feed beyond 600", x.feed(1, 2, 3, 4, 5), NONE);
        Check.due("end(601)", x.end(601), NONE);
        Check.due("end(600)", x.end(600), 600);
        Check.due("end(581)", x.end(581), 581);
        Check.due("feed beyond 600 by one", x.feed(1, 2, 3, 4, 5), NONE);
        Check.due("the tape stayed", x.end(582), NONE);
        Check.due("end(580)", x.end(580), 580);
        Check.due("feed up to 600", x.feed(1, 2, 3, 4, 5), 600);
        // the highest byte first: "up 1" " 2 3" " 1; "
        x.end(0);
        x.feed(0x75702031, 0x20322033, 0x20313b20, 0x20202020, 0x20202020);
        Check.due("text", x.text(0, NONE), 0);
        Check.due("LENGTH", x.forge(0, 60), 1);
        Check.due("STEEL", x.forge(0, 70), 2);
        Check.due("EDGE", x.forge(0, 80), 3);
        Check.due("HAND", x.forge(0, 90), 1);
    }

    private static void textsHaveNumbers() {
        BladePairs x = new BladePairs();
        for (int sort = 0; sort < 3; sort++) {
            Check.due("in the place of none", x.text(sort, 0), -2);
            Check.due("first", x.text(sort, NONE), 0);
            Check.due("at 1", x.text(sort, 1), -2);
            Check.due("second", x.text(sort, NONE), 1);
            Check.due("third", x.text(sort, NONE), -2);
            Check.due("at 0", x.text(sort, 0), 0);
            Check.due("at 1", x.text(sort, 1), 1);
            Check.due("at 2", x.text(sort, 2), -2);
            Check.due("at -2", x.text(sort, -2), -2);
            Check.due("count", x.count(sort), 2);
        }
        Check.due("sort 3", x.text(3, NONE), -2);
        Check.due("sort -1", x.text(-1, NONE), -2);
        // a FAULT leaves what was there, takes the tape, and is over with the next text()
        Check.due("told", Check.tell(x, 0, 1, "up 4 0 0 0;"), 1);
        Check.due("faulty", Check.tell(x, 0, 1, "up 9 9 0 0;"), NONE);
        Check.due("FAULT", x.fault(0), 2);
        Check.due("the tape is empty", x.end(1), NONE);
        Check.due("LENGTH is as before", x.forge(1, 60), 4);
        Check.due("no such sort", x.text(7, 0), -2);
        Check.due("FAULT 0", x.fault(0), 0);
        Check.due("no place", x.fault(1), NONE);
        Check.due("empty", x.text(0, 1), 1);
        Check.due("the tape was empty", x.forge(1, 1), 0);
    }

    /** Also where it answers -2, whichever of its reasons there is, and for each sort. */
    private static void everyTextTakesTheTape() {
        for (int sort = 0; sort < 3; sort++) {
            BladePairs x = new BladePairs();
            takesTape(x, sort, 0, -2);
            takesTape(x, sort, -2, -2);
            takesTape(x, sort, NONE, 0);
            takesTape(x, sort, 1, -2);
            takesTape(x, sort, NONE, 1);
            takesTape(x, sort, NONE, -2);
            takesTape(x, sort, 2, -2);
            takesTape(x, sort, 1, 1);
        }
        BladePairs x = new BladePairs();
        takesTape(x, -1, NONE, -2);
        takesTape(x, 3, 0, -2);
        Check.due("nothing was told", x.count(0) + x.count(1) + x.count(2), 0);
        // what was on the tape is no part of the next text, and no FAULT is found in it
        Check.due("no such FORGE", Check.tell(x, 0, 0, "up 9 9 9 9;"), -2);
        Check.due("FAULT", x.fault(0), 0);
        Check.due("place", x.fault(1), NONE);
        Check.due("a further one", x.text(0, NONE), 0);
        Check.due("UPS", x.forge(0, 1), 0);
        // a tape that was full has room again
        for (int i = 0; i < 30; i++) {
            x.feed(0, 0, 0, 0, 0);
        }
        Check.due("full", x.feed(0, 0, 0, 0, 0), NONE);
        Check.due("no such sort", x.text(9, NONE), -2);
        Check.due("room again", x.feed(0, 0, 0, 0, 0), 20);
        // an image from ahead of the call still has the tape
        x.image(0);
        Check.due("no such YEAR", x.text(1, 1), -2);
        Check.due("empty", x.end(1), NONE);
        x.again(0);
        Check.due("as the image has it", x.end(20), 20);
    }

    /** By a tape of blanks, which is a text of each sort. */
    private static void takesTape(BladePairs x, int sort, int at, int due) {
        x.end(0);
        x.feed(0x20202020, 0x20202020, 0x20202020, 0x20202020, 0x20202020);
        String call = "text(" + sort + ", " + at + ")";
        Check.due(call, x.text(sort, at), due);
        Check.due("the tape is empty behind " + call, x.end(1), NONE);
        Check.due("and begins anew", x.feed(0, 0, 0, 0, 0), 20);
    }

    private static void fault(int sort, String text, int fault, int place) {
        BladePairs x = new BladePairs();
        int got = Check.tell(x, sort, NONE, text);
        Check.due("text " + sort + " \"" + text + "\"", got, fault == 0 ? 0 : NONE);
        Check.due("FAULT of \"" + text + "\"", x.fault(0), fault);
        Check.due("place in \"" + text + "\"", x.fault(1), place);
        Check.due("count", x.count(sort), fault == 0 ? 1 : 0);
        Check.due("the tape is empty", x.end(1), NONE);
    }

    private static void good(int sort, String text) {
        fault(sort, text, 0, NONE);
    }

    private static void faultsOfSyntax() {
        good(0, "");
        good(1, " \n ");
        good(2, "");
        good(0, "down1 0 0 0;up\n1 0 0 0 ;rivet0 0;cloth 1 0 0;");
        good(0, "down 01 00 0 0;");
        good(1, "rivet 0 5;heat 0;part 5;cut 5 5;grind down 0;grind up5;oil 0;day;day ;");
        good(2, "long 40;long no 0;apart 20;rough no40;left 2;");
        fault(0, "down 1 0 0 0", 1, 12);
        fault(0, "down 1 0 0 0 \n", 1, 14);
        fault(0, "down 1 0 0;", 1, 10);
        fault(0, "down 1 0 0 0 0;", 1, 13);
        fault(0, ";", 1, 0);
        fault(0, "  downs 1 0 0 0;", 1, 2);
        fault(0, "downup 1 0 0 0;", 1, 0);
        fault(0, "Down 1 0 0 0;", 1, 0);
        fault(0, "down 100 0 0 0;", 1, 5);
        fault(0, "down 001 0 0 0;", 1, 5);
        fault(0, "down 1 0 0 0;\t", 1, 13);
        fault(0, "down -1 0 0 0;", 1, 5);
        fault(0, "down 1 0 0 0;day;", 1, 13);
        fault(0, "cloth 1 0;", 1, 9);
        fault(0, "rivet 0;", 1, 7);
        fault(0, "down 1 0 0 0;" + (char) 228, 1, 13);
        fault(0, "down 1 0 0 0;" + (char) 0, 1, 13);
        fault(1, "day 0;", 1, 4);
        fault(1, "day", 1, 3);
        fault(1, "grind 0;", 1, 6);
        fault(1, "grind d;", 1, 6);
        fault(1, "grind left 0;", 1, 6);
        fault(1, "heat no 0;", 1, 5);
        fault(1, "heat;", 1, 4);
        fault(1, "heat 0 0;", 1, 7);
        fault(1, "down 1 0 0 0;", 1, 0);
        fault(2, "no 1;", 1, 0);
        fault(2, "long no no 1;", 1, 8);
        fault(2, "long no;", 1, 7);
        fault(2, "long 1 no;", 1, 7);
        fault(2, "left 1;right 1;", 1, 7);
        fault(2, "left no1 ; ;", 1, 11);
        // ahead of all others, wherever it is
        fault(0, "down 0 0 0 0;rivet 0 1;x", 1, 23);
        fault(0, "down 0 4 0 0", 1, 12);
    }

    private static void faultsOfNumbers() {
        good(0, "down 20 3 20 1;up 1 0 0 0;cloth 70 20 9;cloth 1 0 0;");
        fault(0, "down 0 0 0 0;", 2, 5);
        fault(0, "down 21 0 0 0;", 2, 5);
        fault(0, "up 1 4 0 0;", 2, 5);
        fault(0, "down 1 0 21 0;", 2, 9);
        fault(0, "up 1 0 0 2;", 2, 9);
        fault(0, "rivet 6 0;", 2, 6);
        fault(0, "rivet 0 6;", 2, 8);
        fault(0, "rivet 0 99;", 2, 8);
        fault(0, "cloth 0 0 0;", 2, 6);
        fault(0, "cloth 71 0 0;", 2, 6);
        fault(0, "cloth 1 21 0;", 2, 8);
        fault(0, "cloth 1 0 10;", 2, 10);
        fault(0, "up 1 0 0 2;up 0 0 0 0;", 2, 9);
        fault(1, "rivet 6 0;", 2, 6);
        fault(1, "rivet 0 6;", 2, 8);
        fault(1, "cut 6 0;", 2, 4);
        fault(1, "cut 0 6;", 2, 6);
        fault(1, "heat 6;", 2, 5);
        fault(1, "part 6;", 2, 5);
        fault(1, "oil 6;", 2, 4);
        fault(1, "grind up 6;", 2, 9);
        fault(1, "grind down 10;", 2, 11);
        fault(2, "long 41;", 2, 5);
        fault(2, "apart 21;", 2, 6);
        fault(2, "rough no 41;", 2, 9);
        fault(2, "left 3;", 2, 5);
    }

    private static void faultsOfMany() {
        good(0, "down 1 0 0 0;".repeat(6) + "up 1 0 0 0;".repeat(6) + "cloth 1 0 0;".repeat(6));
        fault(0, "down 1 0 0 0;".repeat(7), 3, 78);
        fault(0, "up 1 0 0 0;".repeat(7), 3, 66);
        fault(0, "cloth 1 0 0;".repeat(8), 3, 72);
        fault(0, "up 1 0 0 0;".repeat(6) + "up 0 0 0 0;", 3, 66);
        fault(0, "up 1 0 0 0;".repeat(5) + "up 0 0 0 0;up 1 0 0 0;", 2, 58);
        good(0, "rivet 0 0;".repeat(20) + "down 1 0 0 0;up 1 0 0 0;");
        good(1, "day;".repeat(40));
        fault(1, "day;".repeat(41), 3, 160);
        fault(1, "day;".repeat(39) + " oil 0; grind up 1;", 3, 164);
        good(2, "left 1;".repeat(8));
        fault(2, "left 1;".repeat(9), 3, 56);
        fault(2, "left 1;".repeat(8) + " left no 9;", 3, 57);
    }

    private static void faultsOfRivets() {
        good(0, "rivet 0 0;up 1 0 0 0;down 1 0 0 0;");
        fault(0, "rivet 0 0;", 4, 10);
        fault(0, "down 1 0 0 0;rivet 0 0;  ", 4, 25);
        fault(0, "up 1 0 0 0;rivet 0 0;", 4, 21);
        fault(0, "up 1 0 0 0;down 1 0 0 0;rivet 0 1;", 4, 34);
        fault(0, "up 1 0 0 0;down 1 0 0 0;rivet 1 0;rivet 0 0;", 4, 44);
        fault(0, "rivet 5 5;up 1 0 0 9;", 2, 19);
    }

    private static void forgesAreTold() {
        BladePairs x = Check.forge(Check.FORGE);
        int[] whats = {0, 1, 2, 10, 11, 12, 20, 21, 22, 30, 31, 32, 40, 41, 42, 50, 51, 52, 60, 61, 62, 70, 71, 72,
            80, 81, 82, 90, 91, 92, 100, 101, 102, 110, 111, 112, 120, 121, 122, 130, 131, 132};
        int[] wants = {3, 3, 3, 10, 12, 7, 1, 0, 2, 8, 5, 10, 0, 0, 1, 1, 0, -1, 11, 9, 7, 1, 0, 2,
            6, 4, 9, 0, 0, 1, 1, 0, -1, 30, 45, 35, 5, 9, 7, 0, 0, 1};
        int[] seen = new int[200];
        java.util.Arrays.fill(seen, -2);
        for (int i = 0; i < whats.length; i++) {
            seen[whats[i]] = wants[i];
        }
        for (int what = 0; what < 200; what++) {
            Check.due("forge(0, " + what + ")", x.forge(0, what), seen[what]);
        }
        Check.due("forge(0, -1)", x.forge(0, -1), -2);
        Check.due("forge(1, 0)", x.forge(1, 0), -2);
        Check.due("forge(-1, 0)", x.forge(-1, 0), -2);
        Check.due("forge(0, least)", x.forge(0, Integer.MIN_VALUE), -2);
        Check.due("forge(0, most)", x.forge(0, Integer.MAX_VALUE), -2);
        // those with whom they were are in none
        x = Check.forge("down 1 0 0 0;down 2 0 0 0;up 3 0 0 0;up 4 0 0 0;rivet 0 0;rivet 1 1;rivet 0 1;");
        Check.due("0 is with", x.forge(0, 50), 1);
        Check.due("1 is with", x.forge(0, 51), NONE);
        Check.due("UP 0 is with", x.forge(0, 100), NONE);
        Check.due("UP 1 is with", x.forge(0, 101), 0);
        Check.due("told anew", Check.tell(x, 0, 0, "up 9 0 0 0;"), 0);
        Check.due("DOWNS", x.forge(0, 0), 0);
        Check.due("UPS", x.forge(0, 1), 1);
        Check.due("UP 0 is with", x.forge(0, 100), NONE);
    }

    private static void deedsAreTold() {
        BladePairs x = new BladePairs();
        Check.tell(x, 1, NONE, "rivet 1 2;heat 3;part 4;cut 5 0;grind down 1;grind up 2;oil 3;day;");
        int[][] wants = {{0, 1, 2}, {1, 3, -1}, {2, 4, -1}, {3, 5, 0}, {4, 0, 1}, {4, 1, 2}, {5, 3, -1}, {6, -1, -1}};
        Check.due("DEEDS", x.deed(0, NONE, 0), 8);
        Check.due("deed(0, NONE, 1)", x.deed(0, NONE, 1), -2);
        Check.due("deed(0, -2, 0)", x.deed(0, -2, 0), -2);
        for (int k = 0; k < 8; k++) {
            for (int what = 0; what < 3; what++) {
                Check.due("deed(0, " + k + ", " + what + ")", x.deed(0, k, what), wants[k][what]);
            }
            Check.due("deed, what 3", x.deed(0, k, 3), -2);
            Check.due("deed, what -1", x.deed(0, k, -1), -2);
        }
        Check.due("deed 8", x.deed(0, 8, 0), -2);
        Check.due("year 1", x.deed(1, 0, 0), -2);
        Check.due("year -1", x.deed(-1, 0, 0), -2);
    }

    private static void cluesAreTold() {
        BladePairs x = new BladePairs();
        Check.tell(x, 2, NONE, "long 21;apart no 3;rough 40;left no 1;");
        int[][] wants = {{0, 21, 1}, {1, 3, 0}, {2, 40, 1}, {3, 1, 0}};
        Check.due("CLUES", x.clue(0, NONE, 0), 4);
        Check.due("clue(0, NONE, 1)", x.clue(0, NONE, 1), -2);
        Check.due("clue(0, -2, 0)", x.clue(0, -2, 0), -2);
        for (int k = 0; k < 4; k++) {
            for (int what = 0; what < 3; what++) {
                Check.due("clue(0, " + k + ", " + what + ")", x.clue(0, k, what), wants[k][what]);
            }
            Check.due("clue, what 3", x.clue(0, k, 3), -2);
            Check.due("clue, what -1", x.clue(0, k, -1), -2);
        }
        Check.due("clue 4", x.clue(0, 4, 0), -2);
        Check.due("clues 1", x.clue(1, 0, 0), -2);
    }

    private static void imagesHoldAll() {
        BladePairs x = Check.forge("up 3 0 0 0;");
        Check.due("fault", Check.tell(x, 1, NONE, "day;dax;"), NONE);
        x.feed(0x75702031, 0x20322033, 0x20313b20, 0x20202020, 0x20202020);
        Check.due("image 3", x.image(3), false);
        Check.due("image -1", x.image(-1), false);
        Check.due("again 2", x.again(2), false);
        Check.due("image 2", x.image(2), true);
        Check.due("text", x.text(0, 0), 0);
        Check.tell(x, 0, NONE, Check.FORGE);
        Check.tell(x, 1, NONE, "day;");
        Check.tell(x, 2, NONE, "left 1;");
        Check.due("image 0", x.image(0), true);
        Check.due("again 1", x.again(1), false);
        Check.due("again 3", x.again(3), false);
        Check.due("again 2", x.again(2), true);
        Check.due("FORGES", x.count(0), 1);
        Check.due("YEARS", x.count(1), 0);
        Check.due("CLUES", x.count(2), 0);
        Check.due("LENGTH", x.forge(0, 60), 3);
        Check.due("FAULT", x.fault(0), 1);
        Check.due("place", x.fault(1), 4);
        Check.due("the tape", x.end(21), NONE);
        Check.due("the tape", x.text(0, 0), 0);
        Check.due("LENGTH", x.forge(0, 60), 1);
        Check.due("an image stays", x.again(2), true);
        Check.due("LENGTH", x.forge(0, 60), 3);
        Check.due("again 0", x.again(0), true);
        Check.due("FORGES", x.count(0), 2);
        Check.due("a DOWN's UP", x.forge(1, 50), 1);
        Check.due("DEEDS", x.deed(0, NONE, 0), 1);
        Check.due("CLUES", x.clue(0, NONE, 0), 1);
        Check.due("FAULT", x.fault(0), 0);
        Check.due("an image anew", x.image(2), true);
        Check.due("told anew", Check.tell(x, 2, 0, "left 1;left 2;"), 0);
        Check.due("again 2", x.again(2), true);
        Check.due("CLUES", x.clue(0, NONE, 0), 1);
    }
}

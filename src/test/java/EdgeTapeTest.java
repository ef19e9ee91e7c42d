/** The edges of promises 1 to 5 and 35 to 37: a new object, the tape, texts taken, the FAULT kept, counts, images. */
public final class EdgeTapeTest {
    private static final int NONE = BladePairs.NONE;
    private static final int BLANKS = 0x20202020;
    /** "day;" as one number. */
    private static final int DAY = 0x6461793b;

    public static void main(String[] args) {
        Edges.run(EdgeTapeTest.class);
    }

    private static int feedBlanks(BladePairs x) {
        return x.feed(BLANKS, BLANKS, BLANKS, BLANKS, BLANKS);
    }

    private static void fill(BladePairs x, int n) {
        x.end(0);
        for (int i = 0; i < (n + 19) / 20; i++) {
            feedBlanks(x);
        }
        Check.due("a tape of " + n, x.end(n), n);
    }

    /** By calls that are refused or change nothing. */
    private static void tapeHas(BladePairs x, int n) {
        Check.due("no more than " + n, x.end(n + 1), NONE);
        Check.due("as many as " + n, x.end(n), n);
    }

    @Says(promise = 1, words = "No FORGES, YEARS, CLUES; no images.")
    static void atFirstNothingIsTold() {
        BladePairs x = new BladePairs();
        for (int sort = 0; sort < 3; sort++) {
            Check.due("count(" + sort + ")", x.count(sort), 0);
        }
        Check.due("forge(0, 0)", x.forge(0, 0), -2);
        Check.due("deed(0, NONE, 0)", x.deed(0, NONE, 0), -2);
        Check.due("clue(0, NONE, 0)", x.clue(0, NONE, 0), -2);
        for (int k = 0; k < 3; k++) {
            Check.due("again(" + k + ")", x.again(k), false);
        }
        Check.due("FAULT", x.fault(0), 0);
        Check.due("place", x.fault(1), NONE);
        tapeHas(x, 0);
    }

    @Says(promise = 1, words = "No FORGES, YEARS, CLUES; no images.")
    static void aNewObjectHasNothingOfAnotherOne() {
        BladePairs x = Check.forge(Check.FORGE);
        Check.tell(x, 1, NONE, "day;");
        Check.tell(x, 2, NONE, "left 1;");
        Check.tell(x, 2, NONE, "left 3;");
        x.image(0);
        feedBlanks(x);
        atFirstNothingIsTold();
        Check.due("the other one's FORGE", x.forge(0, 0), 3);
    }

    @Says(promise = 1, words = "An object is used for at most 512 calls after it has been made")
    static void theLastOf512CallsIsAnswered() {
        BladePairs x = new BladePairs();
        Check.due("1", x.image(0), true);
        Check.due("2", x.feed(DAY, DAY, BLANKS, BLANKS, BLANKS), 20);
        Check.due("3", x.text(1, NONE), 0);
        Check.due("4", x.image(1), true);
        for (int call = 5; call <= 510; call++) {
            boolean first = call % 2 == 0;
            Check.due("again, call " + call, x.again(first ? 1 : 0), true);
        }
        Check.due("511", x.deed(0, NONE, 0), 2);
        Check.due("512", x.again(0), true);
    }

    @Says(promise = 2, words = "twenty bytes come behind it, of each number the highest first: how many it has")
    static void eachByteComesAtItsPlace() {
        for (int place = 0; place < 40; place++) {
            for (int sign : new int[] {0, 127, 128, 255}) {
                BladePairs x = new BladePairs();
                int[] numbers = {BLANKS, BLANKS, BLANKS, BLANKS, BLANKS, BLANKS, BLANKS, BLANKS, BLANKS, BLANKS};
                int shift = 24 - 8 * (place % 4);
                numbers[place / 4] = numbers[place / 4] & ~(255 << shift) | sign << shift;
                Check.due("feed", x.feed(numbers[0], numbers[1], numbers[2], numbers[3], numbers[4]), 20);
                Check.due("feed", x.feed(numbers[5], numbers[6], numbers[7], numbers[8], numbers[9]), 40);
                Check.due("text with byte " + sign + " at " + place, x.text(0, NONE), NONE);
                Check.due("its place", x.fault(1), place);
            }
        }
    }

    @Says(promise = 2, words = "NONE, and nothing comes, if there would be more than 600.")
    static void sixHundredBytesComeAndNoMore() {
        BladePairs x = new BladePairs();
        for (int i = 1; i <= 30; i++) {
            Check.due("feed " + i, feedBlanks(x), 20 * i);
        }
        Check.due("feed 31", feedBlanks(x), NONE);
        tapeHas(x, 600);
        Check.due("feed 32", feedBlanks(x), NONE);
        for (int n = 599; n >= 581; n--) {
            x.end(n);
            Check.due("feed behind " + n, feedBlanks(x), NONE);
            tapeHas(x, n);
        }
        x.end(580);
        Check.due("feed behind 580", feedBlanks(x), 600);
        x.end(579);
        Check.due("feed behind 579", feedBlanks(x), 599);
    }

    @Says(promise = 2, words = "NONE, and nothing comes, if there would be more than 600.")
    static void whatIsRefusedWritesNothing() {
        BladePairs x = new BladePairs();
        fill(x, 580);
        Check.due("the last twenty", x.feed(BLANKS, BLANKS, BLANKS, BLANKS, DAY), 600);
        Check.due("refused", x.feed(-1, -1, -1, -1, -1), NONE);
        Check.due("text", x.text(1, NONE), 0);
        Check.due("DEEDS", x.deed(0, NONE, 0), 1);
        // also not the bytes for which there would be room
        fill(x, 590);
        Check.due("refused", x.feed(DAY, DAY, DAY, DAY, DAY), NONE);
        x.end(580);
        feedBlanks(x);
        Check.due("text", x.text(1, NONE), 1);
        Check.due("DEEDS", x.deed(1, NONE, 0), 0);
    }

    @Says(promise = 3, words = "NONE if it has not so many, or n is below 0.")
    static void endTakesNoMoreThanThereIs() {
        BladePairs x = new BladePairs();
        Check.due("end(0) of an empty tape", x.end(0), 0);
        Check.due("end(1) of an empty tape", x.end(1), NONE);
        for (int full : new int[] {20, 600}) {
            fill(x, full);
            for (int n : Edges.beyond(0, full)) {
                Check.due("end(" + n + ") of " + full, x.end(n), NONE);
                tapeHas(x, full);
            }
            Check.due("end(" + (full - 1) + ")", x.end(full - 1), full - 1);
            Check.due("what is cut off is gone", x.end(full), NONE);
            Check.due("end(0)", x.end(0), 0);
            tapeHas(x, 0);
        }
    }

    @Says(promise = 3, words = "The tape has its first n bytes alone: n.")
    static void whatIsCutOffIsNoPartOfTheText() {
        BladePairs x = new BladePairs();
        x.feed(DAY, DAY, DAY, DAY, DAY);
        Check.due("end(8)", x.end(8), 8);
        Check.due("the next twenty come behind it", x.feed(BLANKS, BLANKS, BLANKS, BLANKS, DAY), 28);
        Check.due("text", x.text(1, NONE), 0);
        Check.due("DEEDS", x.deed(0, NONE, 0), 3);
        x.feed(DAY, DAY, DAY, DAY, DAY);
        Check.due("end(0)", x.end(0), 0);
        Check.due("text of nothing", x.text(1, NONE), 1);
        Check.due("DEEDS", x.deed(1, NONE, 0), 0);
        x.feed(DAY, DAY, DAY, DAY, DAY);
        Check.due("end(19), the last ; is off", x.end(19), 19);
        Check.due("text", x.text(1, 0), NONE);
        Check.due("place", x.fault(1), 19);
    }

    @Says(promise = 4, words = "or no such sort (no text is read then, FAULT 0)")
    static void thereAreThreeSorts() {
        for (int sort : Edges.beyond(0, 2)) {
            for (int at : new int[] {NONE, 0, 1}) {
                BladePairs x = Check.forge("down 1 0 0 0;");
                Check.due("a FAULT", Check.tell(x, 0, NONE, "x"), NONE);
                Check.due("sort " + sort, Check.tell(x, sort, at, "x"), -2);
                Check.due("FAULT", x.fault(0), 0);
                Check.due("place", x.fault(1), NONE);
                tapeHas(x, 0);
                Check.due("all counts", 100 * x.count(0) + 10 * x.count(1) + x.count(2), 100);
            }
        }
        for (int sort = 0; sort <= 2; sort++) {
            Check.due("sort " + sort, new BladePairs().text(sort, NONE), 0);
        }
    }

    private static final String[] FIRST = {"up 1 0 0 0;", "day;", "left 1;"};
    private static final String[] SECOND = {"up 1 0 0 0;up 2 0 0 0;", "day;day;", "left 1;left 1;"};
    private static final String[] THIRD = {"up 1 0 0 0;up 2 0 0 0;up 3 0 0 0;", "day;day;day;", "left 1;left 1;left 1;"};

    /** UPS, DEEDS or CLUES, -2 where there is no such text. */
    private static int sizeOf(BladePairs x, int sort, int n) {
        return sort == 0 ? x.forge(n, 1) : sort == 1 ? x.deed(n, NONE, 0) : x.clue(n, NONE, 0);
    }

    @Says(promise = 4, words = {"there are as many as may be", "FORGES, at most 2 (sort 0), YEARS, at most 2 (1), CLUES, "
        + "at most 2 texts of them (2), from 0 on."})
    static void thereAreTwoOfEachSortAndNoThird() {
        for (int sort = 0; sort < 3; sort++) {
            BladePairs x = new BladePairs();
            Check.due("first", Check.tell(x, sort, NONE, FIRST[sort]), 0);
            Check.due("size of 0", sizeOf(x, sort, 0), 1);
            Check.due("size of 1", sizeOf(x, sort, 1), -2);
            Check.due("second", Check.tell(x, sort, NONE, SECOND[sort]), 1);
            Check.due("third", Check.tell(x, sort, NONE, THIRD[sort]), -2);
            Check.due("FAULT", x.fault(0), 0);
            Check.due("place", x.fault(1), NONE);
            Check.due("count", x.count(sort), 2);
            Check.due("size of 0", sizeOf(x, sort, 0), 1);
            Check.due("size of 1", sizeOf(x, sort, 1), 2);
            Check.due("size of 2", sizeOf(x, sort, 2), -2);
            tapeHas(x, 0);
            // the other sorts have room of their own
            int other = (sort + 1) % 3;
            Check.due("another sort", Check.tell(x, other, NONE, FIRST[other]), 0);
        }
    }

    @Says(promise = 4, words = {"-2: there is none such", "a further one (at NONE), or in the place of one: its number."})
    static void onlyInThePlaceOfOneThatIsThere() {
        for (int sort = 0; sort < 3; sort++) {
            BladePairs x = new BladePairs();
            for (int told = 0; told <= 2; told++) {
                for (int at : new int[] {Integer.MIN_VALUE, -2, told, told + 1, Integer.MAX_VALUE}) {
                    Check.due("at " + at + " of " + told, Check.tell(x, sort, at, THIRD[sort]), -2);
                    Check.due("count", x.count(sort), told);
                }
                for (int at = 0; at < told; at++) {
                    Check.due("at " + at + " of " + told, Check.tell(x, sort, at, THIRD[sort]), at);
                    Check.due("count", x.count(sort), told);
                    Check.due("size", sizeOf(x, sort, at), 3);
                    Check.due("at " + at + " of " + told, Check.tell(x, sort, at, at == 0 ? FIRST[sort] : SECOND[sort]), at);
                    Check.due("size", sizeOf(x, sort, at), at + 1);
                }
                Check.due("the others stay", told < 2 || sizeOf(x, sort, 0) == 1 && sizeOf(x, sort, 1) == 2, true);
                Check.due("further", Check.tell(x, sort, NONE, told == 0 ? FIRST[sort] : SECOND[sort]), told < 2 ? told : -2);
            }
        }
    }

    @Says(promise = 4, words = "in the place of one: its number")
    static void nothingOfTheOldTextStays() {
        BladePairs x = Check.forge("down 9 1 2 1;down 8 1 2 1;up 7 1 2 1;up 6 1 2 1;rivet 1 0;rivet 0 1;cloth 9 9 9;");
        Check.due("in its place", Check.tell(x, 0, 0, "up 5 0 0 0;down 5 0 0 0;down 5 0 0 0;"), 0);
        Check.due("UPS", x.forge(0, 1), 1);
        Check.due("UP 1", x.forge(0, 61), -2);
        Check.due("CLOTHS", x.forge(0, 2), 0);
        Check.due("CLOTH 0", x.forge(0, 110), -2);
        Check.due("DOWN 0 is in no PAIR", x.forge(0, 50), NONE);
        Check.due("DOWN 1 is in no PAIR", x.forge(0, 51), NONE);
        Check.due("UP 0 is in no PAIR", x.forge(0, 100), NONE);
        Check.due("in its place", Check.tell(x, 0, 0, ""), 0);
        Check.due("DOWNS", x.forge(0, 0), 0);
        Check.due("count", x.count(0), 1);
    }

    @Says(promise = 4, words = "NONE: a FAULT.")
    static void aFaultTellsNothingAndTakesTheTape() {
        String[] faulty = {"up 1 0 0 0;up 1 0 0 2;", "day;cut 6 0;", "left 1;left 3;"};
        for (int sort = 0; sort < 3; sort++) {
            BladePairs x = new BladePairs();
            Check.due("faulty", Check.tell(x, sort, NONE, faulty[sort]), NONE);
            Check.due("count", x.count(sort), 0);
            Check.due("nothing is told", sizeOf(x, sort, 0), -2);
            tapeHas(x, 0);
            Check.due("the next has number 0", Check.tell(x, sort, NONE, THIRD[sort]), 0);
            Check.due("faulty in its place", Check.tell(x, sort, 0, faulty[sort]), NONE);
            Check.due("it is as it was", sizeOf(x, sort, 0), 3);
            Check.due("faulty as a further one", Check.tell(x, sort, NONE, faulty[sort]), NONE);
            Check.due("count", x.count(sort), 1);
            tapeHas(x, 0);
        }
    }

    @Says(promise = 5, words = {"Of the latest text(), what 0: the FAULT, 0 without, 1: its place, NONE without.",
        "NONE for another what."})
    static void theFaultIsOfTheLatestText() {
        BladePairs x = new BladePairs();
        faultIs(x, 0, NONE);
        Check.tell(x, 0, NONE, ";");
        faultIs(x, 1, 0);
        Check.tell(x, 0, NONE, "up 0 0 0 0;");
        faultIs(x, 2, 3);
        Check.tell(x, 0, NONE, "up 1 0 0 0;".repeat(7));
        faultIs(x, 3, 66);
        Check.tell(x, 0, NONE, "rivet 0 0;");
        faultIs(x, 4, 10);
        Check.due("feed and end leave it", x.end(0) + feedBlanks(x), 20);
        faultIs(x, 4, 10);
        Check.tell(x, 0, NONE, "");
        faultIs(x, 0, NONE);
        Check.tell(x, 2, NONE, " left 3;");
        faultIs(x, 2, 6);
        Check.tell(x, 2, 0, "x");
        faultIs(x, 0, NONE);
    }

    private static void faultIs(BladePairs x, int fault, int place) {
        Check.due("FAULT", x.fault(0), fault);
        Check.due("place", x.fault(1), place);
        for (int what : Edges.beyond(0, 1)) {
            Check.due("fault(" + what + ")", x.fault(what), NONE);
        }
    }

    @Says(promise = 35, words = "-2 for another one.")
    static void countOfSorts() {
        BladePairs x = new BladePairs();
        int[] due = {0, 0, 0};
        int[] order = {2, 0, 1, 1, 0, 2};
        for (int sort : order) {
            Check.due("text", x.text(sort, NONE), due[sort]);
            due[sort]++;
            for (int s = 0; s < 3; s++) {
                Check.due("count(" + s + ")", x.count(s), due[s]);
            }
            for (int s : Edges.beyond(0, 2)) {
                Check.due("count(" + s + ")", x.count(s), -2);
            }
        }
    }

    @Says(promise = 36, words = {"Image k (0 .. 2)", "false for another k."})
    static void thereAreThreeImages() {
        BladePairs x = new BladePairs();
        for (int k : Edges.beyond(0, 2)) {
            Check.due("image(" + k + ")", x.image(k), false);
            Check.due("again(" + k + ")", x.again(k), false);
            for (int other = 0; other < 3; other++) {
                Check.due("it made no image " + other, x.again(other), false);
            }
        }
        for (int k = 0; k < 3; k++) {
            Check.tell(x, 1, k == 0 ? NONE : 0, "day;".repeat(k + 1));
            Check.due("image(" + k + ")", x.image(k), true);
        }
        for (int k : Edges.beyond(0, 2)) {
            Check.due("image(" + k + ")", x.image(k), false);
        }
        for (int k = 0; k < 3; k++) {
            Check.due("again(" + k + ")", x.again(k), true);
            Check.due("DEEDS by image " + k, x.deed(0, NONE, 0), k + 1);
        }
    }

    @Says(promise = {36, 37}, words = "is all that is told (the tape, the FAULT, too), as it is now: true")
    static void anImageOfNothingIsOneToo() {
        BladePairs x = new BladePairs();
        Check.due("image(1)", x.image(1), true);
        Check.tell(x, 0, NONE, Check.FORGE);
        Check.tell(x, 1, NONE, "day;");
        Check.tell(x, 2, NONE, "left 1;");
        Check.tell(x, 2, NONE, "left 3;");
        feedBlanks(x);
        Check.due("again(1)", x.again(1), true);
        Check.due("counts", x.count(0) + x.count(1) + x.count(2), 0);
        Check.due("FORGE 0", x.forge(0, 0), -2);
        faultIs(x, 0, NONE);
        tapeHas(x, 0);
        Check.due("image 1 is still there", x.again(1), true);
        Check.due("image 0 is not", x.again(0), false);
    }

    @Says(promise = {36, 37}, words = "is all that is told (the tape, the FAULT, too), as it is now: true")
    static void anImageHasAsMuchAsMayBe() {
        BladePairs x = new BladePairs();
        String forge = "down 20 3 20 1;".repeat(6) + "up 20 3 20 1;".repeat(6) + "cloth 70 20 9;".repeat(6)
                + Edges.rivets(5, 4, 3, 2, 1, 0);
        for (int n = 0; n < 2; n++) {
            Check.due("FORGE", Check.tell(x, 0, NONE, forge), n);
            Check.due("YEAR", Check.tell(x, 1, NONE, "cut 5 4;".repeat(40)), n);
            Check.due("CLUES", Check.tell(x, 2, NONE, "rough no 40;".repeat(8)), n);
        }
        Check.due("FAULT", Check.tell(x, 2, 1, "left 0;".repeat(9)), NONE);
        fill(x, 580);
        x.feed(BLANKS, BLANKS, BLANKS, BLANKS, DAY);
        Check.due("image", x.image(2), true);
        for (int sort = 0; sort < 3; sort++) {
            x.text(sort, 0);
            x.text(sort, 1);
        }
        // other bytes on all of the tape
        for (int i = 0; i < 30; i++) {
            x.feed(-1, -1, -1, -1, -1);
        }
        Check.due("again", x.again(2), true);
        faultIs(x, 3, 56);
        tapeHas(x, 600);
        for (int n = 0; n < 2; n++) {
            for (int i = 0; i < 6; i++) {
                int told = x.forge(n, 10 + i) + x.forge(n, 20 + i) + x.forge(n, 30 + i) + x.forge(n, 40 + i);
                Check.due("DOWN " + i, told, 44);
                Check.due("UP " + i, x.forge(n, 60 + i) + x.forge(n, 70 + i) + x.forge(n, 80 + i) + x.forge(n, 90 + i), 44);
                Check.due("PAIRS", x.forge(n, 50 + i) * 10 + x.forge(n, 100 + i), 11 * (5 - i));
                Check.due("CLOTH " + i, x.forge(n, 110 + i) + x.forge(n, 120 + i) + x.forge(n, 130 + i), 99);
            }
            Check.due("DEEDS", x.deed(n, NONE, 0), 40);
            Check.due("DEED 39", x.deed(n, 39, 0) * 100 + x.deed(n, 39, 1) * 10 + x.deed(n, 39, 2), 354);
            Check.due("CLUES", x.clue(n, NONE, 0), 8);
            Check.due("CLUE 7", x.clue(n, 7, 0) * 1000 + x.clue(n, 7, 1) * 10 + x.clue(n, 7, 2), 2400);
        }
        Check.due("the tape's last bytes", x.text(1, 1), 1);
        Check.due("are day;", x.deed(1, 0, 0), 6);
    }

    @Says(promise = {36, 37}, words = "as it is now: true")
    static void anImageStaysAsItWas() {
        BladePairs x = Check.forge("up 1 0 0 0;");
        x.image(0);
        Check.tell(x, 0, 0, "up 2 0 0 0;");
        x.image(1);
        Check.tell(x, 0, 0, "up 3 0 0 0;");
        for (int times = 0; times < 3; times++) {
            Check.due("again(0)", x.again(0), true);
            Check.due("LENGTH", x.forge(0, 60), 1);
            Check.due("told over it", Check.tell(x, 0, 0, "up 9 0 0 0;"), 0);
            Check.due("again(1)", x.again(1), true);
            Check.due("LENGTH", x.forge(0, 60), 2);
            Check.due("told over it", Check.tell(x, 0, 0, "up 9 0 0 0;"), 0);
        }
        Check.due("image 0 anew", x.image(0), true);
        x.again(1);
        x.again(0);
        Check.due("LENGTH", x.forge(0, 60), 9);
        // an image brings back no images
        x.image(2);
        Check.tell(x, 0, 0, "up 7 0 0 0;");
        x.image(0);
        x.again(2);
        x.again(0);
        Check.due("LENGTH", x.forge(0, 60), 7);
    }

    @Says(promise = 37, words = "All that is as image k has it: true; false if there is none such.")
    static void againOfNoImageChangesNothing() {
        BladePairs x = Check.forge("up 1 0 0 0;");
        Check.tell(x, 1, NONE, "day;day;x");
        feedBlanks(x);
        x.image(1);
        Check.tell(x, 0, 0, "up 2 0 0 0;");
        Check.tell(x, 1, NONE, "day;cut 9 9;");
        fill(x, 40);
        for (int k : new int[] {Integer.MIN_VALUE, -1, 0, 2, 3, Integer.MAX_VALUE}) {
            Check.due("again(" + k + ")", x.again(k), false);
            Check.due("LENGTH", x.forge(0, 60), 2);
            faultIs(x, 2, 8);
            tapeHas(x, 40);
        }
        Check.due("again(1)", x.again(1), true);
        Check.due("LENGTH", x.forge(0, 60), 1);
        faultIs(x, 1, 8);
        tapeHas(x, 20);
    }
}

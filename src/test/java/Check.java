import java.nio.charset.StandardCharsets;

/** What all tests share: texts put on the tape, answers held against those that are due. */
final class Check {
    static final String FORGE =
            "down 10 1 8 0;down 12 0 5 0;down 7 2 10 1;up 11 1 6 0;up 9 0 4 0;up 7 2 9 1;"
            + "rivet 0 1;rivet 1 0;cloth 30 5 0;cloth 45 9 0;cloth 35 7 1;";

    private static int wrong = 0;
    private static int asked = 0;
    private static String about = "";

    private Check() {
    }

    /** What stands ahead of every answer that is not as due. */
    static void about(String what) {
        about = what;
    }

    static int asked() {
        return asked;
    }

    static void due(String what, long got, long want) {
        asked++;
        if (got != want) {
            wrong++;
            if (wrong <= 50) {
                System.out.println(about + what + " answered " + got + ", due is " + want);
            }
        }
    }

    static void due(String what, boolean got, boolean want) {
        due(what, got ? 1 : 0, want ? 1 : 0);
    }

    /** Puts a text on an empty tape. */
    static void tape(BladePairs x, String text) {
        tape(x, text.getBytes(StandardCharsets.ISO_8859_1));
    }

    static void tape(BladePairs x, byte[] bytes) {
        x.end(0);
        int[] five = new int[5];
        for (int from = 0; from < bytes.length; from += 20) {
            for (int i = 0; i < 5; i++) {
                five[i] = 0;
                for (int j = 0; j < 4; j++) {
                    int at = from + 4 * i + j;
                    five[i] = five[i] << 8 | (at < bytes.length ? bytes[at] & 255 : 32);
                }
            }
            x.feed(five[0], five[1], five[2], five[3], five[4]);
        }
        due("tape of " + bytes.length, x.end(bytes.length), bytes.length);
    }

    static int tell(BladePairs x, int sort, int at, String text) {
        tape(x, text);
        return x.text(sort, at);
    }

    /** A new object with one FORGE. */
    static BladePairs forge(String text) {
        BladePairs x = new BladePairs();
        due("text of " + text, tell(x, 0, BladePairs.NONE, text), 0);
        return x;
    }

    static void end() {
        end(StackWalker.getInstance(StackWalker.Option.RETAIN_CLASS_REFERENCE).getCallerClass().getName());
    }

    static void end(String name) {
        System.out.println(name + ": " + asked + " answers, " + wrong + " not as due");
        if (wrong != 0) {
            System.exit(1);
        }
    }
}

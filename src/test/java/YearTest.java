import java.util.ArrayList;
import java.util.Arrays;
import java.util.List;
import java.util.Random;

/** Promises 9, 10 and 21: END, STATES, years by a seed. */
public final class YearTest {
    private static final int NONE = BladePairs.NONE;

    public static void main(String[] args) {
        toldYear();
        heatAndPart();
        grinding();
        oilAndRust();
        wrongCalls();
        drawnByHand();
        Random r = new Random(7);
        for (int i = 0; i < 600; i++) {
            randomYear(r);
        }
        for (int i = 0; i < 600; i++) {
            randomDraw(r);
        }
        Check.end();
    }

    private static BladePairs with(String forge, String year) {
        BladePairs x = Check.forge(forge);
        Check.due("year " + year, Check.tell(x, 1, NONE, year), 0);
        return x;
    }

    private static void till(String forge, String year, int want) {
        Check.due("till of " + year, with(forge, year).till(0, 0), want);
    }

    private static void toldYear() {
        BladePairs x = with(Check.FORGE,
                "cut 0 0;heat 0;part 0;rivet 0 2;day;grind down 0;oil 1;day;cut 1 0;grind up 2;cut 2 0;");
        // DOWN 2 is in no PAIR
        Check.due("till", x.till(0, 0), 10);
        Check.due("beyond END", x.state(0, 0, 11, 0), -2);
        Check.due("below 0", x.state(0, 0, -1, 0), -2);
        Check.due("day 0", x.state(0, 0, 4, 0), 0);
        Check.due("day 1", x.state(0, 0, 5, 0), 1);
        Check.due("EARNED", x.state(0, 0, 0, 1), 0);
        Check.due("EARNED", x.state(0, 0, 1, 1), 5);
        Check.due("EARNED", x.state(0, 0, 10, 1), 10);
        Check.due("cuts", x.state(0, 0, 10, 2), 2);
        Check.due("hot", x.state(0, 0, 2, 3), 1);
        Check.due("hot though parted", x.state(0, 0, 3, 3), 1);
        Check.due("cool", x.state(0, 0, 5, 3), 0);
        Check.due("oiled", x.state(0, 0, 7, 4), 2);
        Check.due("oiled no more", x.state(0, 0, 8, 4), 0);
        Check.due("with 1", x.state(0, 0, 2, 30), 1);
        Check.due("with none", x.state(0, 0, 3, 30), NONE);
        Check.due("with 2", x.state(0, 0, 4, 30), 2);
        Check.due("EDGE behind a cut", x.state(0, 0, 1, 10), 7);
        Check.due("EDGE of the UP", x.state(0, 0, 1, 41), 3);
        Check.due("who worked does not rust", x.state(0, 0, 5, 10), 7);
        Check.due("who worked does not rust, though parted", x.state(0, 0, 5, 41), 3);
        Check.due("who did not work rusts", x.state(0, 0, 5, 11), 4);
        Check.due("who is in no PAIR rusts", x.state(0, 0, 5, 12), 9);
        Check.due("EDGE ground", x.state(0, 0, 6, 10), 12);
        Check.due("LENGTH ground", x.state(0, 0, 6, 20), 9);
        Check.due("oiled", x.state(0, 0, 8, 11), 4);
        Check.due("oiled with him", x.state(0, 0, 8, 40), 5);
        Check.due("LENGTH of UP 2", x.state(0, 0, 10, 52), 6);
        Check.due("the FORGE is as told", x.forge(0, 30), 8);
    }

    private static void heatAndPart() {
        String forge = "down 10 0 20 0;up 10 0 20 0;up 10 0 20 0;cloth 1 1 0;rivet 0 0;";
        till(forge, "heat 0;heat 0;", 1);
        till(forge, "heat 0;day;heat 0;", 3);
        till(forge, "part 0;", 0);
        till(forge, "heat 0;day;part 0;", 2);
        till(forge, "heat 0;part 0;part 0;", 2);
        till(forge, "heat 0;part 0;heat 0;", 2);
        till(forge, "heat 0;cut 0 0;", 1);
        till(forge, "heat 0;grind down 0;", 1);
        till(forge, "heat 0;grind up 0;", 1);
        till(forge, "heat 0;grind up 1;oil 0;", 3);
        till(forge, "heat 0;part 0;grind down 0;grind up 0;", 4);
        // he is hot till the day ends, so he can be parted again
        till(forge, "heat 0;part 0;rivet 0 1;cut 0 0;", 3);
        till(forge, "heat 0;part 0;rivet 0 1;part 0;rivet 0 0;grind up 0;", 5);
        till(forge, "rivet 0 1;", 0);
        till(forge, "rivet 0 2;", 0);
        till(forge, "heat 1;", 0);
        till(forge, "oil 1;", 0);
        till(forge, "cut 0 1;", 0);
        till(forge, "grind up 2;", 0);
        till(forge, "grind down 1;", 0);
        till("down 1 0 0 0;", "oil 0;heat 0;", 1);
        till("", "day;day;oil 0;", 2);
        till("", "", 0);
    }

    private static void grinding() {
        BladePairs x = with("down 3 0 12 0;up 2 0 0 0;", "grind down 0;grind down 0;grind up 0;grind up 0;");
        Check.due("LENGTH 1 can't be ground", x.till(0, 0), 3);
        Check.due("20 at most", x.state(0, 0, 2, 10), 20);
        Check.due("17", x.state(0, 0, 1, 10), 17);
        Check.due("LENGTH", x.state(0, 0, 2, 20), 1);
        Check.due("UP EDGE", x.state(0, 0, 3, 40), 5);
        Check.due("UP LENGTH", x.state(0, 0, 3, 50), 1);
        // cutting is by LENGTHS and EDGES as they are now
        till("down 9 0 0 0;up 8 0 0 0;rivet 0 0;cloth 33 1 0;", "cut 0 0;", 0);
        till("down 9 0 0 0;up 8 0 0 0;rivet 0 0;cloth 33 1 0;", "grind down 0;cut 0 0;cut 0 0;cut 0 0;", 4);
        till("down 9 0 0 0;up 8 0 0 0;rivet 0 0;cloth 33 1 0;", "grind down 0;day;cut 0 0;cut 0 0;cut 0 0;", 4);
    }

    private static void oilAndRust() {
        BladePairs x = with("down 9 0 1 0;down 9 0 3 0;up 9 0 3 0;up 9 0 3 0;rivet 1 1;",
                "oil 1;day;day;oil 0;rivet 0 0;day;day;");
        Check.due("0 rusts", x.state(0, 0, 2, 10), 0);
        Check.due("0 at least", x.state(0, 0, 3, 10), 0);
        Check.due("1 is oiled", x.state(0, 0, 2, 11), 3);
        Check.due("with her", x.state(0, 0, 2, 41), 3);
        Check.due("UP 0 rusts", x.state(0, 0, 2, 40), 2);
        Check.due("not oiled any more", x.state(0, 0, 3, 11), 2);
        Check.due("oiled ahead of the rivet, so without her", x.state(0, 0, 6, 40), 0);
        Check.due("oiled bits", x.state(0, 0, 4, 4), 1);
        Check.due("day", x.state(0, 0, 7, 0), 4);
    }

    private static void wrongCalls() {
        BladePairs x = with(Check.FORGE, "day;");
        for (int what = -1; what < 70; what++) {
            int tens = what / 10;
            int unit = what % 10;
            boolean there = what >= 0 && (tens == 0 ? unit < 5 : tens < 6 && unit < 3);
            Check.due("state what " + what, x.state(0, 0, 0, what) != -2, there);
            Check.due("drawn what " + what, x.drawn(0, 1, 0, what) != -2, there);
        }
        Check.due("forge", x.state(1, 0, 0, 0), -2);
        Check.due("year", x.state(0, 1, 0, 0), -2);
        Check.due("n", x.state(0, 0, 2, 0), -2);
        Check.due("n", x.state(0, 0, Integer.MAX_VALUE, 0), -2);
        Check.due("till forge", x.till(1, 0), NONE);
        Check.due("till year", x.till(0, 1), NONE);
        Check.due("till year", x.till(0, -1), NONE);
        Check.due("drawn forge", x.drawn(1, 0, 0, 0), -2);
        Check.due("drawn 61", x.drawn(0, 0, 61, 0), -2);
        Check.due("drawn -1", x.drawn(0, 0, -1, 0), -2);
        Check.due("drawn 60", x.drawn(0, 0, 60, 0) >= 0, true);
    }

    /** Seed 1, one DOWN: below 1 always 0; numbers below 8 told by hand. */
    private static void drawnByHand() {
        // x: 1103527590, 2524885223, 662824084, 3295386010, 4182499122, 2516284547, ...
        // by 16: 16838, 38526, 10113, 50283, 63819, 38395: below 8 the second, fourth, sixth: 6, 3, 3
        BladePairs x = Check.forge("down 5 0 9 0;");
        Check.due("oiled", x.drawn(0, 1, 1, 4), 1);
        Check.due("day", x.drawn(0, 1, 1, 0), 0);
        // without CLOTHS the third number is not drawn, so all numbers stay in step
        Check.due("oiled", x.drawn(0, 1, 3, 4), 1);
        Check.due("nothing", x.drawn(0, 1, 0, 4), 0);
        BladePairs empty = Check.forge("up 5 0 9 0;cloth 1 1 1;");
        Check.due("nothing is drawn", empty.drawn(0, 1, 60, 0), 0);
        Check.due("nothing rusts", empty.drawn(0, 1, 60, 40), 9);
    }

    private static void randomYear(Random r) {
        Oracle o = Oracle.random(r);
        soften(o, r);
        Life life = new Life(o);
        List<int[]> deeds = new ArrayList<>();
        StringBuilder text = new StringBuilder();
        List<int[]> states = new ArrayList<>();
        states.add(life.all());
        boolean on = true;
        int n = r.nextInt(41);
        for (int i = 0; i < n; i++) {
            int[] deed = deed(r);
            // most DEEDS are such that can be, so that years grow long
            for (int tries = 0; tries < 30 && !new Life(life).can(deed); tries++) {
                deed = deed(r);
            }
            deeds.add(deed);
            text.append(words(deed));
            on = on && life.can(deed);
            if (on) {
                states.add(life.all());
            }
        }
        BladePairs x = with(o.text(), text.toString());
        int end = states.size() - 1;
        Check.due("till of " + o.text() + " by " + text, x.till(0, 0), end);
        Check.due("beyond END", x.state(0, 0, end + 1, 0), -2);
        for (int i = 0; i <= end; i++) {
            // an object is used for 512 calls at most
            x = i % 6 == 0 ? with(o.text(), text.toString()) : x;
            same(o, x, i, 0, states.get(i), o.text() + " by " + text);
        }
    }

    /** Soft CLOTHS, so that there is something to cut. */
    private static void soften(Oracle o, Random r) {
        for (int[] c : o.cloths) {
            c[0] = 1 + r.nextInt(45);
        }
    }

    private static void same(Oracle o, BladePairs x, int n, int seed, int[] all, String name) {
        for (int what = 0; what < 60; what++) {
            int got = seed == 0 ? x.state(0, 0, n, what) : x.drawn(0, seed, n, what);
            Check.due("what " + what + " behind " + n + " of " + name, got, all[what]);
        }
    }

    private static int[] deed(Random r) {
        int sort = r.nextInt(7);
        int first = sort == 6 ? -1 : sort == 4 ? r.nextInt(2) : r.nextInt(6);
        int second = sort == 0 || sort == 3 || sort == 4 ? r.nextInt(6) : -1;
        return new int[] {sort, first, second};
    }

    private static String words(int[] deed) {
        String[] names = {"rivet ", "heat ", "part ", "cut ", "grind ", "oil ", "day"};
        String[] sides = {"down", "up"};
        String first = deed[1] == -1 ? "" : deed[0] == 4 ? sides[deed[1]] : "" + deed[1];
        return names[deed[0]] + first + (deed[2] == -1 ? "" : " " + deed[2]) + ";";
    }

    private static void randomDraw(Random r) {
        Oracle o = Oracle.random(r);
        soften(o, r);
        int seed = r.nextInt() | 1;
        int n = r.nextInt(61);
        BladePairs x = Check.forge(o.text());
        Life life = new Life(o);
        long[] state = {seed & 0xffffffffL};
        for (int i = 0; i < n && !o.downs.isEmpty(); i++) {
            int d = draw(state, o.downs.size());
            switch (draw(state, 8)) {
                case 0 -> {
                    if (!o.ups.isEmpty()) {
                        life.can(new int[] {0, d, draw(state, o.ups.size())});
                    }
                }
                case 1 -> life.can(new int[] {1, d, -1});
                case 2 -> life.can(new int[] {2, d, -1});
                case 3, 4 -> {
                    if (!o.cloths.isEmpty()) {
                        life.can(new int[] {3, d, draw(state, o.cloths.size())});
                    }
                }
                case 5 -> life.can(new int[] {4, 0, d});
                case 6 -> life.can(new int[] {5, d, -1});
                default -> life.can(new int[] {6, -1, -1});
            }
        }
        same(o, x, n, seed, life.all(), o.text() + " by seed " + seed);
    }

    private static int draw(long[] state, int below) {
        state[0] = (state[0] * 1103515245L + 12345L) & 0xffffffffL;
        return (int) ((state[0] >> 16) % below);
    }

    /** A year lived in the most direct way, BLADES as small rows: LENGTH, STEEL, EDGE, HAND, worked, oiled, hot. */
    private static final class Life {
        private final List<int[]> downs = new ArrayList<>();
        private final List<int[]> ups = new ArrayList<>();
        private final List<int[]> cloths;
        private final List<int[]> pairs = new ArrayList<>();
        private int day = 0;
        private int earned = 0;
        private int cuts = 0;

        Life(Oracle o) {
            o.downs.forEach(b -> downs.add(Arrays.copyOf(b, 7)));
            o.ups.forEach(b -> ups.add(Arrays.copyOf(b, 7)));
            cloths = o.cloths;
            for (int d = 0; d < o.pairs.length; d++) {
                if (o.pairs[d] != 6) {
                    pairs.add(new int[] {d, o.pairs[d]});
                }
            }
        }

        Life(Life other) {
            other.downs.forEach(b -> downs.add(b.clone()));
            other.ups.forEach(b -> ups.add(b.clone()));
            cloths = other.cloths;
            pairs.addAll(other.pairs);
        }

        private int[] pairOf(int side, int i) {
            for (int[] pair : pairs) {
                if (pair[side] == i) {
                    return pair;
                }
            }
            return null;
        }

        /** Does the DEED, if it can be. */
        boolean can(int[] deed) {
            int a = deed[1];
            int b = deed[2];
            if (deed[0] == 6) {
                nextDay(downs);
                nextDay(ups);
                day++;
                return true;
            }
            if (deed[0] == 4) {
                return grinds(a == 0 ? downs : ups, a, b);
            }
            if (a >= downs.size()) {
                return false;
            }
            int[] him = downs.get(a);
            int[] pair = pairOf(0, a);
            switch (deed[0]) {
                case 0:
                    if (b >= ups.size() || pair != null || pairOf(1, b) != null) {
                        return false;
                    }
                    pairs.add(new int[] {a, b});
                    return true;
                case 1:
                    if (pair == null || him[6] == 1) {
                        return false;
                    }
                    him[6] = 1;
                    return true;
                case 2:
                    return him[6] == 1 && pair != null && pairs.remove(pair);
                case 3:
                    return pair != null && him[6] == 0 && b < cloths.size() && cutsIt(him, ups.get(pair[1]), b);
                default:
                    him[5] = 1;
                    if (pair != null) {
                        ups.get(pair[1])[5] = 1;
                    }
                    return true;
            }
        }

        private boolean cutsIt(int[] him, int[] her, int c) {
            int fit = 30 - 2 * Math.abs(him[0] - her[0]) - 5 * Math.abs(him[1] - her[1]) - (him[3] != her[3] ? 12 : 0);
            if (Math.max(fit, 0) + him[2] + her[2] < cloths.get(c)[0]) {
                return false;
            }
            for (int[] blade : new int[][] {him, her}) {
                blade[2] -= blade[2] > 0 ? 1 : 0;
                blade[4] = 1;
            }
            earned += cloths.get(c)[1];
            cuts++;
            return true;
        }

        private boolean grinds(List<int[]> side, int which, int i) {
            if (i >= side.size() || side.get(i)[0] == 1) {
                return false;
            }
            int[] pair = pairOf(which, i);
            if (pair != null && downs.get(pair[0])[6] == 1) {
                return false;
            }
            side.get(i)[0]--;
            side.get(i)[2] = Math.min(20, side.get(i)[2] + 5);
            return true;
        }

        private static void nextDay(List<int[]> side) {
            for (int[] blade : side) {
                if (blade[4] == 0 && blade[5] == 0 && blade[2] > 0) {
                    blade[2]--;
                }
                blade[4] = 0;
                blade[5] = 0;
                blade[6] = 0;
            }
        }

        /** What state() is to answer for 0 to 59. */
        int[] all() {
            int[] all = new int[60];
            Arrays.fill(all, -2);
            all[0] = day;
            all[1] = earned;
            all[2] = cuts;
            all[3] = 0;
            all[4] = 0;
            for (int d = 0; d < downs.size(); d++) {
                all[3] |= downs.get(d)[6] << d;
                all[4] |= downs.get(d)[5] << d;
                all[10 + d] = downs.get(d)[2];
                all[20 + d] = downs.get(d)[0];
                all[30 + d] = pairOf(0, d) == null ? -1 : pairOf(0, d)[1];
            }
            for (int u = 0; u < ups.size(); u++) {
                all[40 + u] = ups.get(u)[2];
                all[50 + u] = ups.get(u)[0];
            }
            return all;
        }
    }
}

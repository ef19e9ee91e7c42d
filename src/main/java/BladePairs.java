import java.util.Arrays;

/** Forges, years and clues told as texts, and what can be asked of them. */
public final class BladePairs {
    /** There is none. */
    public static final int NONE = -1;

    private static final int NO_SUCH = -2;
    /** BLADES of a side and CLOTHS at most; in a ROW the number that stands for nobody. */
    private static final int MOST = 6;
    private static final int TAPE_MOST = 600;
    private static final int FEED_BYTES = 20;
    private static final int TEXTS_MOST = 2;
    private static final int SORTS = 3;
    private static final int IMAGES = 3;
    private static final int DEEDS_MOST = 40;
    private static final int CLUES_MOST = 8;
    private static final int EDGE_MOST = 20;
    private static final int DAY_MOST = 99;

    private static final int FORGE_TEXT = 0;
    private static final int YEAR_TEXT = 1;

    private static final int LENGTH = 0;
    private static final int STEEL = 1;
    private static final int EDGE = 2;
    private static final int HAND = 3;
    private static final int MATE = 4;

    private static final int RIVET = 0;
    private static final int HEAT = 1;
    private static final int PART = 2;
    private static final int CUT = 3;
    private static final int GRIND = 4;
    private static final int OIL = 5;
    private static final int DAY = 6;

    private static final int LONG = 0;
    private static final int APART = 1;
    private static final int ROUGH = 2;
    private static final int LEFT = 3;
    private static final int CLUE_SORTS = 4;

    private static final int TOLD_ROW = 0;
    private static final int ASKED = 1;
    private static final int SHE = 2;
    private static final int CHANGED = 3;
    private static final int BEST = 4;
    private static final int UNLIKE = 5;

    private final Told told = new Told();
    private final Told[] images = new Told[IMAGES];
    private final Reader reader = new Reader();
    private final Season season = new Season();
    private final Matcher matcher = new Matcher();
    private final Market market = new Market();
    private final Workshop workshop = new Workshop();
    private final Games games = new Games();

    public BladePairs() {
    }

    public int feed(int a, int b, int c, int d, int e) {
        if (told.length + FEED_BYTES > TAPE_MOST) {
            return NONE;
        }
        told.append(a);
        told.append(b);
        told.append(c);
        told.append(d);
        told.append(e);
        return told.length;
    }

    public int end(int n) {
        if (n < 0 || n > told.length) {
            return NONE;
        }
        told.length = n;
        return n;
    }

    public int text(int sort, int at) {
        // The tape is taken by every call, also by one that reads no text.
        int taken = told.length;
        told.length = 0;
        told.fault = 0;
        told.place = NONE;
        int target = told.target(sort, at);
        if (target == NO_SUCH) {
            return NO_SUCH;
        }
        reader.read(told.tape, taken, sort);
        told.fault = reader.fault;
        told.place = reader.place;
        if (reader.fault != 0) {
            return NONE;
        }
        told.keep(sort, target, reader);
        return target;
    }

    public int fault(int what) {
        if (what == 0) {
            return told.fault;
        }
        return what == 1 ? told.place : NONE;
    }

    public int forge(int forge, int what) {
        Forge f = told.forgeAt(forge);
        return f == null ? NO_SUCH : f.tell(what);
    }

    public int fit(int forge, int down, int up, boolean power) {
        Forge f = told.forgeAt(forge);
        if (f == null) {
            return NONE;
        }
        return power ? f.powerOf(down, up, 0) : f.fitOf(down, up);
    }

    public int deed(int year, int k, int what) {
        Year y = told.yearAt(year);
        return y == null ? NO_SUCH : y.tell(k, what);
    }

    public int till(int forge, int year) {
        Forge f = told.forgeAt(forge);
        Year y = told.yearAt(year);
        if (f == null || y == null) {
            return NONE;
        }
        return season.live(f, y, y.size);
    }

    public int state(int forge, int year, int n, int what) {
        Forge f = told.forgeAt(forge);
        Year y = told.yearAt(year);
        if (f == null || y == null || n < 0) {
            return NO_SUCH;
        }
        return season.live(f, y, n) == n ? season.tell(what) : NO_SUCH;
    }

    public int leaving(int forge, int how) {
        Forge f = told.forgeAt(forge);
        if (f == null || how < TOLD_ROW || how > UNLIKE) {
            return NONE;
        }
        matcher.pick(f, how);
        return matcher.leavingCouples();
    }

    public int row(int forge, int how, int k) {
        Forge f = told.forgeAt(forge);
        if (f == null || how < ASKED || how > UNLIKE || (k != NONE && !f.downs.has(k))) {
            return NONE;
        }
        matcher.pick(f, how);
        return k == NONE ? matcher.couples() : matcher.upOf(k);
    }

    public int rows(int forge, int what) {
        Forge f = told.forgeAt(forge);
        if (f == null || what < 0 || what > 3) {
            return NONE;
        }
        return what == 3 ? matcher.standingRows(f) : matcher.numberOf(f, CHANGED + what);
    }

    public int trade(int forge, int down) {
        Forge f = told.forgeAt(forge);
        if (f == null || f.upOf(down) == NONE) {
            return NONE;
        }
        market.exchange(f);
        return market.got[down];
    }

    public int works(int forge, int k) {
        Forge f = told.forgeAt(forge);
        if (f == null || (k != NONE && !f.hasCloth(k))) {
            return NONE;
        }
        workshop.plan(f);
        return k == NONE ? workshop.best : workshop.bestRow[k];
    }

    public int grind(int n, int edge, boolean first) {
        if (n < 0 || n > Games.GRIND_DAYS || edge < 0 || edge > EDGE_MOST) {
            return NO_SUCH;
        }
        games.weighGrinding(n);
        return first ? games.firstGrinding(n, edge) : games.mostEarned(n, edge);
    }

    public long moment(int w, int v, int n, int what) {
        if (w < 0 || w > 9 || v < 0 || v > 9 || n < 0 || n > 9 || what < 0 || what > 2) {
            return NONE;
        }
        games.weighMoment(w, v, n);
        if (what == 2) {
            return games.now ? 1 : 0;
        }
        long divisor = greatestDivisor(games.mean, games.scale);
        return (what == 0 ? games.mean : games.scale) / divisor;
    }

    public int rest(int c, int d, int k) {
        if (c < 0 || c >= Games.CALLS || d < 0 || d >= Games.CALLS || k < -2) {
            return NONE;
        }
        games.weighCalls(c, d);
        if (k == NONE) {
            return games.rests();
        }
        return k == -2 ? games.mostlySelling() : games.restAt(k);
    }

    public int clue(int clues, int k, int what) {
        Clues c = told.cluesAt(clues);
        return c == null ? NO_SUCH : c.tell(k, what);
    }

    public int whose(int forge, int clues, int what) {
        Forge f = told.forgeAt(forge);
        Clues c = told.cluesAt(clues);
        if (f == null || c == null) {
            return NO_SUCH;
        }
        long couples = c.suspects(f);
        switch (what) {
            case 0:
                return Long.bitCount(couples);
            case 1:
                return Clues.sureBlade(couples, true);
            case 2:
                return Clues.sureBlade(couples, false);
            case 3:
                return Clues.bestNext(f, couples);
            default:
                return what < 10 ? NO_SUCH : Clues.suspectAt(couples, what - 10);
        }
    }

    public int drawn(int forge, int seed, int n, int what) {
        Forge f = told.forgeAt(forge);
        if (f == null || n < 0 || n > Season.DRAWS_MOST) {
            return NO_SUCH;
        }
        season.drawAll(f, seed, n);
        return season.tell(what);
    }

    public int crew(int forge) {
        Forge f = told.forgeAt(forge);
        return f == null ? NONE : workshop.fewest(f);
    }

    public int idle(int forge, int down, int cloth) {
        Forge f = told.forgeAt(forge);
        if (f == null || !f.cutsWorn(down, cloth, 0)) {
            return NONE;
        }
        int days = 0;
        while (days < DAY_MOST && f.cutsWorn(down, cloth, days + 1)) {
            days++;
        }
        return days;
    }

    public int moves(int forge, int how, boolean rivet) {
        Forge f = told.forgeAt(forge);
        if (f == null || how < ASKED || how > UNLIKE) {
            return NONE;
        }
        matcher.pick(f, how);
        return rivet ? matcher.toRivet() : matcher.toPart();
    }

    public int rings(int forge, boolean other) {
        Forge f = told.forgeAt(forge);
        if (f == null) {
            return NONE;
        }
        market.exchange(f);
        return other ? market.exchanged(f) : market.ringsClosed;
    }

    public int lone(int forge) {
        Forge f = told.forgeAt(forge);
        return f == null ? NONE : f.bestLoneCouple();
    }

    public int rank(int forge, int k) {
        Forge f = told.forgeAt(forge);
        return f == null ? NONE : f.pairByPower(k);
    }

    public int trued(int forge, int down, int up, boolean best) {
        Forge f = told.forgeAt(forge);
        if (f == null || !f.downs.has(down) || !f.ups.has(up)) {
            return NONE;
        }
        // A FIT at like LENGTHS is never 0, so the greatest is reached there, and only there.
        return best ? f.levelFit(down, up) : Math.abs(f.downs.length[down] - f.ups.length[up]);
    }

    public int tips(int forge) {
        Forge f = told.forgeAt(forge);
        return f == null ? NONE : f.likeLengths();
    }

    public int swap(int forge, boolean gain) {
        Forge f = told.forgeAt(forge);
        return f == null ? NONE : market.bestSwap(f, gain);
    }

    public int settles(int forge) {
        Forge f = told.forgeAt(forge);
        return f == null ? NONE : matcher.settlings(f);
    }

    public long share(int forge, int down, boolean under) {
        Forge f = told.forgeAt(forge);
        if (f == null || f.upOf(down) == NONE) {
            return NONE;
        }
        long above = workshop.sharedPrices(f, down);
        long below = Workshop.SHARE_UNIT;
        return (under ? below : above) / greatestDivisor(above, below);
    }

    public int hire(int forge, int k, boolean wage) {
        Forge f = told.forgeAt(forge);
        if (f == null || !(wage ? f.ups : f.downs).has(k)) {
            return NO_SUCH;
        }
        market.bidAll(f);
        return wage ? market.wages[k] : market.got[k];
    }

    public int line(int forge, int n, int what) {
        Forge f = told.forgeAt(forge);
        if (f == null || n < 0 || n > 9 || what < 0 || what > 2) {
            return NONE;
        }
        return matcher.descend(f, n, what);
    }

    public int count(int sort) {
        return sort < 0 || sort >= SORTS ? NO_SUCH : told.counts[sort];
    }

    public boolean image(int k) {
        if (k < 0 || k >= IMAGES) {
            return false;
        }
        if (images[k] == null) {
            images[k] = new Told();
        }
        images[k].copyFrom(told);
        return true;
    }

    public boolean again(int k) {
        if (k < 0 || k >= IMAGES || images[k] == null) {
            return false;
        }
        told.copyFrom(images[k]);
        return true;
    }

    /** Never below 1, so that it may divide. */
    private static long greatestDivisor(long a, long b) {
        long more = Math.abs(a);
        long less = Math.abs(b);
        for (int i = 0; i < 200 && less != 0; i++) {
            long left = more % less;
            more = less;
            less = left;
        }
        return Math.max(1, more);
    }

    /** All that is told: what an image holds. */
    private static final class Told {
        final byte[] tape = new byte[TAPE_MOST];
        final Forge[] forges = new Forge[TEXTS_MOST];
        final Year[] years = new Year[TEXTS_MOST];
        final Clues[] clues = new Clues[TEXTS_MOST];
        final int[] counts = new int[SORTS];
        int length = 0;
        int fault = 0;
        int place = NONE;

        Told() {
            for (int i = 0; i < TEXTS_MOST; i++) {
                forges[i] = new Forge();
                years[i] = new Year();
                clues[i] = new Clues();
            }
        }

        void append(int number) {
            for (int shift = 24; shift >= 0 && length < TAPE_MOST; shift -= 8) {
                tape[length] = (byte) (number >>> shift);
                length++;
            }
        }

        /** The number that a text told now would have, or NO_SUCH. */
        int target(int sort, int at) {
            if (sort < 0 || sort >= SORTS) {
                return NO_SUCH;
            }
            if (at == NONE) {
                return counts[sort] < TEXTS_MOST ? counts[sort] : NO_SUCH;
            }
            return at >= 0 && at < counts[sort] ? at : NO_SUCH;
        }

        void keep(int sort, int at, Reader reader) {
            if (sort < 0 || sort >= SORTS || at < 0 || at >= TEXTS_MOST) {
                return;
            }
            if (sort == FORGE_TEXT) {
                forges[at].copyFrom(reader.forge);
            } else if (sort == YEAR_TEXT) {
                years[at].copyFrom(reader.year);
            } else {
                clues[at].copyFrom(reader.clues);
            }
            counts[sort] = Math.max(counts[sort], at + 1);
        }

        Forge forgeAt(int n) {
            return n >= 0 && n < TEXTS_MOST && n < counts[0] ? forges[n] : null;
        }

        Year yearAt(int n) {
            return n >= 0 && n < TEXTS_MOST && n < counts[1] ? years[n] : null;
        }

        Clues cluesAt(int n) {
            return n >= 0 && n < TEXTS_MOST && n < counts[2] ? clues[n] : null;
        }

        void copyFrom(Told other) {
            System.arraycopy(other.tape, 0, tape, 0, TAPE_MOST);
            System.arraycopy(other.counts, 0, counts, 0, SORTS);
            for (int i = 0; i < TEXTS_MOST; i++) {
                forges[i].copyFrom(other.forges[i]);
                years[i].copyFrom(other.years[i]);
                clues[i].copyFrom(other.clues[i]);
            }
            length = other.length;
            fault = other.fault;
            place = other.place;
        }
    }

    /** The BLADES of one side. */
    private static final class Blades {
        final int[] length = new int[MOST];
        final int[] steel = new int[MOST];
        final int[] edge = new int[MOST];
        final int[] hand = new int[MOST];
        final int[] mate = new int[MOST];
        int size = 0;

        Blades() {
            Arrays.fill(mate, NONE);
        }

        void clear() {
            Arrays.fill(mate, NONE);
            size = 0;
        }

        /** A further BLADE; with whom it is stays, as a rivet may be told ahead of it. */
        void add(int itsLength, int itsSteel, int itsEdge, int itsHand) {
            if (size >= MOST) {
                return;
            }
            length[size] = itsLength;
            steel[size] = itsSteel;
            edge[size] = itsEdge;
            hand[size] = itsHand;
            size++;
        }

        boolean has(int i) {
            return i >= 0 && i < size && i < MOST;
        }

        int tell(int which, int i) {
            if (!has(i)) {
                return NO_SUCH;
            }
            switch (which) {
                case LENGTH:
                    return length[i];
                case STEEL:
                    return steel[i];
                case EDGE:
                    return edge[i];
                case HAND:
                    return hand[i];
                default:
                    return which == MATE ? mate[i] : NO_SUCH;
            }
        }

        void rust(int sparedBits) {
            for (int i = 0; i < size && i < MOST; i++) {
                if ((sparedBits >> i & 1) == 0) {
                    edge[i] = Math.max(0, edge[i] - 1);
                }
            }
        }

        void copyFrom(Blades other) {
            System.arraycopy(other.length, 0, length, 0, MOST);
            System.arraycopy(other.steel, 0, steel, 0, MOST);
            System.arraycopy(other.edge, 0, edge, 0, MOST);
            System.arraycopy(other.hand, 0, hand, 0, MOST);
            System.arraycopy(other.mate, 0, mate, 0, MOST);
            size = other.size;
        }
    }

    private static final class Forge {
        final Blades downs = new Blades();
        final Blades ups = new Blades();
        final int[] hard = new int[MOST];
        final int[] price = new int[MOST];
        final int[] day = new int[MOST];
        int cloths = 0;

        void clear() {
            downs.clear();
            ups.clear();
            cloths = 0;
        }

        void addCloth(int itsHard, int itsPrice, int itsDay) {
            if (cloths >= MOST) {
                return;
            }
            hard[cloths] = itsHard;
            price[cloths] = itsPrice;
            day[cloths] = itsDay;
            cloths++;
        }

        boolean hasCloth(int c) {
            return c >= 0 && c < cloths && c < MOST;
        }

        /** They are a PAIR; those with whom they were are in none. */
        void join(int d, int u) {
            if (d < 0 || d >= MOST || u < 0 || u >= MOST) {
                return;
            }
            loosen(downs, ups, d);
            loosen(ups, downs, u);
            downs.mate[d] = u;
            ups.mate[u] = d;
        }

        void loosenDown(int d) {
            if (d >= 0 && d < MOST) {
                loosen(downs, ups, d);
            }
        }

        private static void loosen(Blades side, Blades other, int i) {
            int mate = side.mate[i];
            if (mate >= 0 && mate < MOST) {
                other.mate[mate] = NONE;
            }
            side.mate[i] = NONE;
        }

        /** The UP with whom a DOWN is a PAIR, else NONE. */
        int upOf(int d) {
            return downs.has(d) && ups.has(downs.mate[d]) ? downs.mate[d] : NONE;
        }

        int fitOf(int d, int u) {
            if (!downs.has(d) || !ups.has(u)) {
                return NONE;
            }
            return Math.max(0, levelFit(d, u) - 2 * Math.abs(downs.length[d] - ups.length[u]));
        }

        /** The FIT of two who are there, if they were of like LENGTH: 3 at least. */
        int levelFit(int d, int u) {
            int steels = 5 * Math.abs(downs.steel[d] - ups.steel[u]);
            return 30 - steels - (downs.hand[d] == ups.hand[u] ? 0 : 12);
        }

        /** POWER, both EDGES being so much less, 0 at least. */
        int powerOf(int d, int u, int worn) {
            int fit = fitOf(d, u);
            if (fit == NONE) {
                return NONE;
            }
            return fit + Math.max(0, downs.edge[d] - worn) + Math.max(0, ups.edge[u] - worn);
        }

        /** Whether a DOWN is in a PAIR that cuts a CLOTH, both EDGES being so much less. */
        boolean cutsWorn(int d, int c, int worn) {
            int u = upOf(d);
            return u != NONE && hasCloth(c) && powerOf(d, u, worn) >= hard[c];
        }

        boolean downLikesMore(int d, int u, int other) {
            int more = fitOf(d, u) - fitOf(d, other);
            return more > 0 || (more == 0 && u < other);
        }

        int bestLoneCouple() {
            int best = NONE;
            int bestFit = NONE;
            for (int d = 0; d < downs.size; d++) {
                for (int u = 0; u < ups.size; u++) {
                    if (downs.mate[d] == NONE && ups.mate[u] == NONE && fitOf(d, u) > bestFit) {
                        bestFit = fitOf(d, u);
                        best = MOST * d + u;
                    }
                }
            }
            return best;
        }

        /** The k-th PAIR by POWER: the one that just k others stand ahead of. */
        int pairByPower(int k) {
            for (int d = 0; d < downs.size; d++) {
                if (upOf(d) != NONE && strongerThan(d) == k) {
                    return d;
                }
            }
            return NONE;
        }

        private int strongerThan(int d) {
            int power = powerOf(d, upOf(d), 0);
            int ahead = 0;
            for (int e = 0; e < downs.size; e++) {
                if (upOf(e) != NONE) {
                    int more = powerOf(e, upOf(e), 0) - power;
                    ahead += more > 0 || (more == 0 && e < d) ? 1 : 0;
                }
            }
            return ahead;
        }

        int likeLengths() {
            int like = 0;
            for (int d = 0; d < downs.size; d++) {
                int u = upOf(d);
                if (u != NONE && downs.length[d] == ups.length[u]) {
                    like++;
                }
            }
            return like;
        }

        int tell(int what) {
            if (what < 0) {
                return NO_SUCH;
            }
            int tens = what / 10;
            int unit = what % 10;
            if (tens == 0) {
                return tellSize(unit);
            }
            if (tens <= 5) {
                return downs.tell(tens - 1, unit);
            }
            return tens <= 10 ? ups.tell(tens - 6, unit) : tellCloth(tens, unit);
        }

        private int tellSize(int unit) {
            switch (unit) {
                case 0:
                    return downs.size;
                case 1:
                    return ups.size;
                default:
                    return unit == 2 ? cloths : NO_SUCH;
            }
        }

        private int tellCloth(int tens, int c) {
            if (!hasCloth(c)) {
                return NO_SUCH;
            }
            switch (tens) {
                case 11:
                    return hard[c];
                case 12:
                    return price[c];
                default:
                    return tens == 13 ? day[c] : NO_SUCH;
            }
        }

        void copyFrom(Forge other) {
            downs.copyFrom(other.downs);
            ups.copyFrom(other.ups);
            System.arraycopy(other.hard, 0, hard, 0, MOST);
            System.arraycopy(other.price, 0, price, 0, MOST);
            System.arraycopy(other.day, 0, day, 0, MOST);
            cloths = other.cloths;
        }
    }

    private static final class Year {
        final int[] sort = new int[DEEDS_MOST];
        final int[] first = new int[DEEDS_MOST];
        final int[] second = new int[DEEDS_MOST];
        int size = 0;

        void add(int itsSort, int itsFirst, int itsSecond) {
            if (size >= DEEDS_MOST) {
                return;
            }
            sort[size] = itsSort;
            first[size] = itsFirst;
            second[size] = itsSecond;
            size++;
        }

        int tell(int k, int what) {
            if (k == NONE) {
                return what == 0 ? size : NO_SUCH;
            }
            if (k < 0 || k >= size || k >= DEEDS_MOST) {
                return NO_SUCH;
            }
            switch (what) {
                case 0:
                    return sort[k];
                case 1:
                    return first[k];
                default:
                    return what == 2 ? second[k] : NO_SUCH;
            }
        }

        void copyFrom(Year other) {
            System.arraycopy(other.sort, 0, sort, 0, DEEDS_MOST);
            System.arraycopy(other.first, 0, first, 0, DEEDS_MOST);
            System.arraycopy(other.second, 0, second, 0, DEEDS_MOST);
            size = other.size;
        }
    }

    /** One text of CLUES. Couples are bits of a long, bit 6 times the DOWN, and the UP. */
    private static final class Clues {
        private static final int COUPLES = MOST * MOST;

        final int[] sort = new int[CLUES_MOST];
        final int[] number = new int[CLUES_MOST];
        final int[] so = new int[CLUES_MOST];
        int size = 0;

        void add(int itsSort, int itsNumber, boolean isSo) {
            if (size >= CLUES_MOST) {
                return;
            }
            sort[size] = itsSort;
            number[size] = itsNumber;
            so[size] = isSo ? 1 : 0;
            size++;
        }

        int tell(int k, int what) {
            if (k == NONE) {
                return what == 0 ? size : NO_SUCH;
            }
            if (k < 0 || k >= size || k >= CLUES_MOST) {
                return NO_SUCH;
            }
            switch (what) {
                case 0:
                    return sort[k];
                case 1:
                    return number[k];
                default:
                    return what == 2 ? so[k] : NO_SUCH;
            }
        }

        /** All couples by whom every CLUE is so. */
        long suspects(Forge f) {
            long couples = 0;
            for (int d = 0; d < f.downs.size; d++) {
                for (int u = 0; u < f.ups.size; u++) {
                    if (fitsAll(f, d, u)) {
                        couples |= 1L << (MOST * d + u);
                    }
                }
            }
            return couples;
        }

        private boolean fitsAll(Forge f, int d, int u) {
            for (int k = 0; k < size && k < CLUES_MOST; k++) {
                boolean same = measure(f, d, u, sort[k]) == number[k];
                if (same != (so[k] == 1)) {
                    return false;
                }
            }
            return true;
        }

        /** The n that a CLUE of a sort has for a couple. */
        private static int measure(Forge f, int d, int u, int sort) {
            if (!f.downs.has(d) || !f.ups.has(u)) {
                return NONE;
            }
            switch (sort) {
                case LONG:
                    return f.downs.length[d] + f.ups.length[u];
                case APART:
                    return Math.abs(f.downs.length[d] - f.ups.length[u]);
                case ROUGH:
                    return f.downs.edge[d] + f.ups.edge[u];
                default:
                    return f.downs.hand[d] + f.ups.hand[u];
            }
        }

        static int suspectAt(long couples, int k) {
            int before = 0;
            for (int i = 0; i < COUPLES; i++) {
                if ((couples >> i & 1) == 1) {
                    if (before == k) {
                        return i;
                    }
                    before++;
                }
            }
            return NO_SUCH;
        }

        /** The DOWN, or else the UP, who is in all couples; NONE, if nobody is, or there are no couples. */
        static int sureBlade(long couples, boolean down) {
            int sure = NONE;
            for (int i = 0; i < COUPLES; i++) {
                if ((couples >> i & 1) == 1) {
                    int blade = down ? i / MOST : i % MOST;
                    if (sure != NONE && sure != blade) {
                        return NONE;
                    }
                    sure = blade;
                }
            }
            return sure;
        }

        static int bestNext(Forge f, long couples) {
            int best = NONE;
            int least = COUPLES + 1;
            for (int s = 0; s < CLUE_SORTS && couples != 0; s++) {
                int largest = largestAlike(f, couples, s);
                if (largest < least) {
                    least = largest;
                    best = s;
                }
            }
            return best;
        }

        private static int largestAlike(Forge f, long couples, int sort) {
            int largest = 0;
            for (int i = 0; i < COUPLES; i++) {
                if ((couples >> i & 1) == 1) {
                    int n = measure(f, i / MOST, i % MOST, sort);
                    largest = Math.max(largest, alike(f, couples, sort, n));
                }
            }
            return largest;
        }

        private static int alike(Forge f, long couples, int sort, int n) {
            int same = 0;
            for (int i = 0; i < COUPLES; i++) {
                if ((couples >> i & 1) == 1 && measure(f, i / MOST, i % MOST, sort) == n) {
                    same++;
                }
            }
            return same;
        }

        void copyFrom(Clues other) {
            System.arraycopy(other.sort, 0, sort, 0, CLUES_MOST);
            System.arraycopy(other.number, 0, number, 0, CLUES_MOST);
            System.arraycopy(other.so, 0, so, 0, CLUES_MOST);
            size = other.size;
        }
    }

    /** Reads a tape as a text into a FORGE, a YEAR or CLUES of its own, which count only without a FAULT. */
    private static final class Reader {
        private static final int WORD = 0;
        private static final int NUMBER = 1;
        private static final int STOP = 2;
        private static final int OVER = 3;
        private static final int WRONG = 4;

        private static final int[] BLADE_LEAST = {1, 0, 0, 0};
        private static final int[] BLADE_MOST = {20, 3, 20, 1};
        private static final int[] CLOTH_LEAST = {1, 0, 0};
        private static final int[] CLOTH_MOST = {70, 20, 9};
        private static final int[] CLUE_MOST = {40, 20, 40, 2};

        final Forge forge = new Forge();
        final Year year = new Year();
        final Clues clues = new Clues();
        int fault = 0;
        int place = NONE;
        private final byte[] bytes = new byte[TAPE_MOST];
        private final int[] numbers = new int[4];
        private int length = 0;
        private int at = 0;
        private int kind = OVER;
        private int start = 0;
        private int value = 0;
        private int downsNamed = 0;
        private int upsNamed = 0;

        void read(byte[] tape, int tapeLength, int sort) {
            begin(tape, tapeLength);
            boolean more = true;
            for (int lines = 0; lines < TAPE_MOST && more && kind != OVER; lines++) {
                if (sort == FORGE_TEXT) {
                    more = forgeLine();
                } else {
                    more = sort == YEAR_TEXT ? deedLine() : clueLine();
                }
            }
            boolean missing = downsNamed >> forge.downs.size != 0 || upsNamed >> forge.ups.size != 0;
            if (fault == 0 && missing) {
                note(4, length);
            }
        }

        private void begin(byte[] tape, int tapeLength) {
            length = Math.max(0, Math.min(Math.min(tapeLength, tape.length), TAPE_MOST));
            System.arraycopy(tape, 0, bytes, 0, length);
            forge.clear();
            year.size = 0;
            clues.size = 0;
            fault = 0;
            place = NONE;
            at = 0;
            downsNamed = 0;
            upsNamed = 0;
            advance();
        }

        private boolean forgeLine() {
            if (isWord("down")) {
                return bladeLine(forge.downs);
            }
            if (isWord("up")) {
                return bladeLine(forge.ups);
            }
            if (isWord("cloth")) {
                return clothLine();
            }
            return isWord("rivet") ? rivetLine() : refuse();
        }

        private boolean bladeLine(Blades side) {
            beginLine(side.size >= MOST);
            for (int i = 0; i < 4; i++) {
                if (!takeNumber(i, BLADE_LEAST[i], BLADE_MOST[i])) {
                    return false;
                }
            }
            side.add(numbers[0], numbers[1], numbers[2], numbers[3]);
            return takeStop();
        }

        private boolean clothLine() {
            beginLine(forge.cloths >= MOST);
            for (int i = 0; i < 3; i++) {
                if (!takeNumber(i, CLOTH_LEAST[i], CLOTH_MOST[i])) {
                    return false;
                }
            }
            forge.addCloth(numbers[0], numbers[1], numbers[2]);
            return takeStop();
        }

        private boolean rivetLine() {
            beginLine(false);
            if (!takeNumber(0, 0, MOST - 1) || !takeNumber(1, 0, MOST - 1)) {
                return false;
            }
            if (numbers[0] < MOST && numbers[1] < MOST) {
                downsNamed |= 1 << numbers[0];
                upsNamed |= 1 << numbers[1];
                forge.join(numbers[0], numbers[1]);
            }
            return takeStop();
        }

        private boolean deedLine() {
            int sort = deedSort();
            if (sort == NONE) {
                return refuse();
            }
            beginLine(year.size >= DEEDS_MOST);
            if (!takeDeedNumbers(sort)) {
                return false;
            }
            year.add(sort, numbers[0], numbers[1]);
            return takeStop();
        }

        private int deedSort() {
            if (isWord("rivet")) {
                return RIVET;
            }
            if (isWord("heat")) {
                return HEAT;
            }
            if (isWord("part")) {
                return PART;
            }
            if (isWord("cut")) {
                return CUT;
            }
            if (isWord("grind")) {
                return GRIND;
            }
            if (isWord("oil")) {
                return OIL;
            }
            return isWord("day") ? DAY : NONE;
        }

        private boolean takeDeedNumbers(int sort) {
            switch (sort) {
                case RIVET:
                case CUT:
                    return takeNumber(0, 0, MOST - 1) && takeNumber(1, 0, MOST - 1);
                case GRIND:
                    return takeSide() && takeNumber(1, 0, MOST - 1);
                case DAY:
                    return true;
                default:
                    return takeNumber(0, 0, MOST - 1);
            }
        }

        private boolean clueLine() {
            int sort = clueSort();
            if (sort < 0 || sort >= CLUE_SORTS) {
                return refuse();
            }
            beginLine(clues.size >= CLUES_MOST);
            boolean not = isWord("no");
            if (not) {
                advance();
            }
            if (!takeNumber(0, 0, CLUE_MOST[sort])) {
                return false;
            }
            clues.add(sort, numbers[0], !not);
            return takeStop();
        }

        private int clueSort() {
            if (isWord("long")) {
                return LONG;
            }
            if (isWord("apart")) {
                return APART;
            }
            if (isWord("rough")) {
                return ROUGH;
            }
            return isWord("left") ? LEFT : NONE;
        }

        /** Behind a line's first word, at which a line too many is noted. */
        private void beginLine(boolean tooMany) {
            if (tooMany) {
                note(3, start);
            }
            Arrays.fill(numbers, NONE);
            advance();
        }

        private boolean takeNumber(int i, int least, int most) {
            if (kind != NUMBER) {
                return refuse();
            }
            if (value < least || value > most) {
                note(2, start);
            }
            if (i >= 0 && i < numbers.length) {
                numbers[i] = value;
            }
            advance();
            return true;
        }

        private boolean takeSide() {
            boolean up = isWord("up");
            if (!up && !isWord("down")) {
                return refuse();
            }
            numbers[0] = up ? 1 : 0;
            advance();
            return true;
        }

        private boolean takeStop() {
            if (kind != STOP) {
                return refuse();
            }
            advance();
            return true;
        }

        /** FAULT 1 comes ahead of all that was noted, wherever that is. */
        private boolean refuse() {
            fault = 1;
            place = start;
            return false;
        }

        /** Lines are read in the order of places, so the first that is noted stays. */
        private void note(int itsFault, int itsPlace) {
            if (fault == 0) {
                fault = itsFault;
                place = itsPlace;
            }
        }

        private void advance() {
            while (at < length && (bytes[at] == 10 || bytes[at] == 32)) {
                at++;
            }
            start = at;
            if (at >= length) {
                kind = OVER;
            } else if (isLetter(bytes[at])) {
                takeLetters();
            } else if (isDigit(bytes[at])) {
                takeDigits();
            } else {
                kind = bytes[at] == ';' ? STOP : WRONG;
                at++;
            }
        }

        private void takeLetters() {
            kind = WORD;
            while (at < length && isLetter(bytes[at])) {
                at++;
            }
        }

        private void takeDigits() {
            value = 0;
            while (at < length && isDigit(bytes[at])) {
                value = Math.min(100, 10 * value + bytes[at] - '0');
                at++;
            }
            kind = at - start <= 2 ? NUMBER : WRONG;
        }

        private boolean isWord(String word) {
            if (kind != WORD || at - start != word.length()) {
                return false;
            }
            for (int i = 0; i < word.length(); i++) {
                if (bytes[start + i] != word.charAt(i)) {
                    return false;
                }
            }
            return true;
        }

        private static boolean isLetter(int sign) {
            return sign >= 'a' && sign <= 'z';
        }

        private static boolean isDigit(int sign) {
            return sign >= '0' && sign <= '9';
        }
    }

    /** A YEAR that is lived through in a FORGE, deed by deed; BLADES are bits. */
    private static final class Season {
        private static final int DRAWS_MOST = 60;

        private final Forge now = new Forge();
        private int day = 0;
        private int earned = 0;
        private int cuts = 0;
        private int hot = 0;
        private int oiledDowns = 0;
        private int oiledUps = 0;
        private int workedDowns = 0;
        private int workedUps = 0;
        private int seed = 0;

        private void begin(Forge f) {
            now.copyFrom(f);
            day = 0;
            earned = 0;
            cuts = 0;
            coolDown();
        }

        /** What lasts till the day ends is over. */
        private void coolDown() {
            hot = 0;
            oiledDowns = 0;
            oiledUps = 0;
            workedDowns = 0;
            workedUps = 0;
        }

        /** How many of the first DEEDS, so many at most, could be. */
        int live(Forge f, Year y, int most) {
            begin(f);
            int done = 0;
            while (done < most && done < y.size && done < DEEDS_MOST
                    && perform(y.sort[done], y.first[done], y.second[done])) {
                done++;
            }
            return done;
        }

        void drawAll(Forge f, int itsSeed, int times) {
            begin(f);
            seed = itsSeed;
            for (int i = 0; i < times && now.downs.size > 0; i++) {
                int d = draw(now.downs.size);
                drawDeed(d, draw(8));
            }
        }

        private void drawDeed(int d, int number) {
            switch (number) {
                case 0:
                    if (now.ups.size > 0) {
                        rivetThem(d, draw(now.ups.size));
                    }
                    break;
                case 1:
                    heatHim(d);
                    break;
                case 2:
                    partThem(d);
                    break;
                case 3:
                case 4:
                    if (now.cloths > 0) {
                        cutCloth(d, draw(now.cloths));
                    }
                    break;
                case 5:
                    grindBlade(0, d);
                    break;
                case 6:
                    oilThem(d);
                    break;
                default:
                    endDay();
                    break;
            }
        }

        private int draw(int below) {
            seed = seed * 1103515245 + 12345;
            return below <= 0 ? 0 : (seed >>> 16) % below;
        }

        /** Whether the DEED could be; if not, all is as it was. */
        private boolean perform(int sort, int first, int second) {
            switch (sort) {
                case RIVET:
                    return rivetThem(first, second);
                case HEAT:
                    return heatHim(first);
                case PART:
                    return partThem(first);
                case CUT:
                    return cutCloth(first, second);
                case GRIND:
                    return grindBlade(first, second);
                case OIL:
                    return oilThem(first);
                default:
                    return sort == DAY && endDay();
            }
        }

        private boolean rivetThem(int d, int u) {
            if (!now.downs.has(d) || !now.ups.has(u) || now.downs.mate[d] != NONE || now.ups.mate[u] != NONE) {
                return false;
            }
            now.join(d, u);
            return true;
        }

        private boolean heatHim(int d) {
            if (now.upOf(d) == NONE || isHot(d)) {
                return false;
            }
            hot |= 1 << d;
            return true;
        }

        private boolean partThem(int d) {
            if (now.upOf(d) == NONE || !isHot(d)) {
                return false;
            }
            now.loosenDown(d);
            return true;
        }

        private boolean cutCloth(int d, int c) {
            int u = now.upOf(d);
            if (u == NONE || isHot(d) || !now.hasCloth(c) || now.powerOf(d, u, 0) < now.hard[c]) {
                return false;
            }
            now.downs.edge[d] = Math.max(0, now.downs.edge[d] - 1);
            now.ups.edge[u] = Math.max(0, now.ups.edge[u] - 1);
            earned += now.price[c];
            cuts++;
            workedDowns |= 1 << d;
            workedUps |= 1 << u;
            return true;
        }

        private boolean grindBlade(int side, int i) {
            Blades blades = side == 0 ? now.downs : now.ups;
            if (!blades.has(i) || blades.length[i] <= 1) {
                return false;
            }
            boolean paired = blades.mate[i] != NONE;
            if (paired && isHot(side == 0 ? i : blades.mate[i])) {
                return false;
            }
            blades.edge[i] = Math.min(EDGE_MOST, blades.edge[i] + 5);
            blades.length[i]--;
            return true;
        }

        private boolean oilThem(int d) {
            if (!now.downs.has(d)) {
                return false;
            }
            oiledDowns |= 1 << d;
            int u = now.upOf(d);
            if (u != NONE) {
                oiledUps |= 1 << u;
            }
            return true;
        }

        private boolean endDay() {
            if (day >= DAY_MOST) {
                return false;
            }
            now.downs.rust(workedDowns | oiledDowns);
            now.ups.rust(workedUps | oiledUps);
            coolDown();
            day++;
            return true;
        }

        private boolean isHot(int d) {
            return d >= 0 && d < MOST && (hot >> d & 1) == 1;
        }

        int tell(int what) {
            if (what < 0) {
                return NO_SUCH;
            }
            int unit = what % 10;
            switch (what / 10) {
                case 0:
                    return tellWhole(unit);
                case 1:
                    return now.downs.tell(EDGE, unit);
                case 2:
                    return now.downs.tell(LENGTH, unit);
                case 3:
                    return now.downs.tell(MATE, unit);
                case 4:
                    return now.ups.tell(EDGE, unit);
                case 5:
                    return now.ups.tell(LENGTH, unit);
                default:
                    return NO_SUCH;
            }
        }

        private int tellWhole(int unit) {
            switch (unit) {
                case 0:
                    return day;
                case 1:
                    return earned;
                case 2:
                    return cuts;
                case 3:
                    return hot;
                default:
                    return unit == 4 ? oiledDowns : NO_SUCH;
            }
        }
    }

    /** ROWS of a FORGE: who has whom, and who would leave. */
    private static final class Matcher {
        /** ROWS in which as many are as can be: never more than 6 in 6 places. */
        private static final int ROWS_MOST = 720;
        /** Above every score. */
        private static final int NO_SCORE = 1000;
        private static final int WIDTH = MOST + 1;
        private static final int SETTLES_MOST = 100;

        private final Forge forge = new Forge();
        private final Forge children = new Forge();
        /** Of each DOWN his UP, of each UP her DOWN. */
        private final int[] row = new int[MOST];
        private final int[] mate = new int[MOST];
        /** The PAIRS that are told, as a ROW. */
        private final int[] before = new int[MOST];
        private final int[] chosen = new int[MOST];
        private final int[] order = new int[MOST];
        private final int[] asked = new int[MOST];
        private final int[] fits = new int[MOST * WIDTH];
        /** How many the one likes better than the other, MOST for nobody. */
        private final int[] downRank = new int[MOST * WIDTH];
        private final int[] upRank = new int[MOST * WIDTH];

        private void bind(Forge f) {
            forge.copyFrom(f);
            for (int d = 0; d < forge.downs.size; d++) {
                before[d] = forge.upOf(d) == NONE ? MOST : forge.upOf(d);
                for (int u = 0; u < forge.ups.size; u++) {
                    fits[d * WIDTH + u] = forge.fitOf(d, u);
                }
            }
            Arrays.fill(downRank, MOST);
            Arrays.fill(upRank, MOST);
            for (int d = 0; d < forge.downs.size; d++) {
                for (int u = 0; u < forge.ups.size; u++) {
                    downRank[d * WIDTH + u] = upsLikedMore(d, u);
                    upRank[u * WIDTH + d] = downsLikedMore(u, d);
                }
            }
        }

        private int upsLikedMore(int d, int u) {
            int liked = 0;
            for (int other = 0; other < forge.ups.size; other++) {
                int more = fits[d * WIDTH + other] - fits[d * WIDTH + u];
                liked += more > 0 || (more == 0 && other < u) ? 1 : 0;
            }
            return liked;
        }

        private int downsLikedMore(int u, int d) {
            int liked = 0;
            for (int other = 0; other < forge.downs.size; other++) {
                int more = fits[other * WIDTH + u] - fits[d * WIDTH + u];
                liked += more > 0 || (more == 0 && other < d) ? 1 : 0;
            }
            return liked;
        }

        /** The ROW of a kind, 0 for the PAIRS that are told. */
        void pick(Forge f, int how) {
            bind(f);
            Arrays.fill(row, MOST);
            Arrays.fill(mate, MOST);
            if (how == TOLD_ROW) {
                takePairs();
            } else if (how == ASKED) {
                ask(forge.downs.size, forge.ups.size, downRank, upRank, row, mate);
            } else if (how == SHE) {
                ask(forge.ups.size, forge.downs.size, upRank, downRank, mate, row);
            } else {
                search(how);
            }
        }

        private void takePairs() {
            for (int d = 0; d < forge.downs.size; d++) {
                couple(d, before[d]);
            }
        }

        /** Nothing, if one of them is nobody. */
        private void couple(int d, int u) {
            if (d >= 0 && d < MOST && u >= 0 && u < MOST) {
                row[d] = u;
                mate[u] = d;
            }
        }

        /** One side asks, each the one it likes best of those not asked yet; the other keeps the best that came. */
        private void ask(int askers, int others, int[] askerRank, int[] otherRank, int[] has, int[] hasOther) {
            Arrays.fill(asked, 0);
            for (int i = 0; i < MOST * MOST; i++) {
                int a = nextAsker(askers, others, has);
                if (a == NONE) {
                    break;
                }
                int b = ranked(askerRank, a, asked[a], others);
                asked[a]++;
                int rival = b == NONE ? NONE : hasOther[b];
                if (b != NONE && otherRank[b * WIDTH + a] < otherRank[b * WIDTH + rival]) {
                    if (rival < MOST) {
                        has[rival] = MOST;
                    }
                    has[a] = b;
                    hasOther[b] = a;
                }
            }
        }

        private int nextAsker(int askers, int others, int[] has) {
            for (int a = 0; a < askers && a < MOST; a++) {
                if (has[a] == MOST && asked[a] < others) {
                    return a;
                }
            }
            return NONE;
        }

        private static int ranked(int[] rank, int a, int wanted, int others) {
            for (int b = 0; b < others && b < MOST; b++) {
                if (rank[a * WIDTH + b] == wanted) {
                    return b;
                }
            }
            return NONE;
        }

        /** The first ROW by numbers with the least score; answers that score. */
        private int search(int how) {
            int least = NO_SCORE;
            Arrays.fill(chosen, MOST);
            beginRows();
            boolean more = true;
            for (int i = 0; i < ROWS_MOST && more; i++) {
                takeRow();
                int score = score(how);
                if (score < least && (how != CHANGED || stands())) {
                    least = score;
                    System.arraycopy(row, 0, chosen, 0, MOST);
                }
                more = nextRow();
            }
            System.arraycopy(chosen, 0, order, 0, MOST);
            takeRow();
            return least;
        }

        private int score(int how) {
            switch (how) {
                case CHANGED:
                    return changes();
                case BEST:
                    return -sumOfFits();
                default:
                    return -leastFit();
            }
        }

        /**
         * Only ROWS with as many as can be are gone through: in another one a DOWN and an UP are free,
         * who would leave, and who together make a ROW of no less FITS that is earlier by numbers.
         */
        private void beginRows() {
            for (int i = 0; i < MOST; i++) {
                order[i] = i < forge.ups.size ? i : MOST;
            }
        }

        private void takeRow() {
            Arrays.fill(row, MOST);
            Arrays.fill(mate, MOST);
            for (int d = 0; d < forge.downs.size && d < MOST; d++) {
                couple(d, order[d]);
            }
        }

        /** The next order of UPS by numbers that makes another ROW. */
        private boolean nextRow() {
            int width = Math.min(MOST, Math.max(forge.downs.size, forge.ups.size));
            // What stands behind the ROW is in its last order then, so that the step falls into the ROW.
            turnRound(forge.downs.size, width - 1);
            int i = width - 2;
            while (i >= 0 && order[i] >= order[i + 1]) {
                i--;
            }
            if (i < 0) {
                return false;
            }
            int j = width - 1;
            while (j > i && order[j] <= order[i]) {
                j--;
            }
            exchange(i, j);
            turnRound(i + 1, width - 1);
            return true;
        }

        private void turnRound(int from, int to) {
            int i = from;
            int j = to;
            while (i < j) {
                exchange(i, j);
                i++;
                j--;
            }
        }

        private void exchange(int i, int j) {
            if (i < 0 || j < 0 || i >= MOST || j >= MOST) {
                return;
            }
            int kept = order[i];
            order[i] = order[j];
            order[j] = kept;
        }

        /** CHANGED how many, the sum of BEST, the FIT of UNLIKE. */
        int numberOf(Forge f, int how) {
            bind(f);
            int least = search(how);
            return how == CHANGED ? least : -least;
        }

        int standingRows(Forge f) {
            bind(f);
            beginRows();
            int standing = 0;
            boolean more = true;
            for (int i = 0; i < ROWS_MOST && more; i++) {
                takeRow();
                standing += stands() ? 1 : 0;
                more = nextRow();
            }
            return standing;
        }

        int leavingCouples() {
            int leaving = 0;
            for (int d = 0; d < forge.downs.size; d++) {
                for (int u = 0; u < forge.ups.size; u++) {
                    leaving += wouldLeave(d, u) ? 1 : 0;
                }
            }
            return leaving;
        }

        private boolean stands() {
            return firstLeaving() == NONE;
        }

        /** 6 times the DOWN, and the UP. */
        private int firstLeaving() {
            for (int d = 0; d < forge.downs.size; d++) {
                for (int u = 0; u < forge.ups.size; u++) {
                    if (wouldLeave(d, u)) {
                        return MOST * d + u;
                    }
                }
            }
            return NONE;
        }

        private boolean wouldLeave(int d, int u) {
            return downRank[d * WIDTH + u] < downRank[d * WIDTH + row[d]]
                    && upRank[u * WIDTH + d] < upRank[u * WIDTH + mate[u]];
        }

        int upOf(int d) {
            return d >= 0 && d < MOST ? row[d] : NONE;
        }

        int couples() {
            int couples = 0;
            for (int d = 0; d < forge.downs.size; d++) {
                couples += row[d] != MOST ? 1 : 0;
            }
            return couples;
        }

        private int changes() {
            int changes = 0;
            for (int d = 0; d < forge.downs.size; d++) {
                changes += row[d] != before[d] ? 1 : 0;
            }
            return changes;
        }

        private int sumOfFits() {
            int sum = 0;
            for (int d = 0; d < forge.downs.size; d++) {
                sum += row[d] != MOST ? fits[d * WIDTH + row[d]] : 0;
            }
            return sum;
        }

        /** NONE, if nobody is in the ROW. */
        private int leastFit() {
            int least = NONE;
            for (int d = 0; d < forge.downs.size; d++) {
                if (row[d] != MOST && (least == NONE || fits[d * WIDTH + row[d]] < least)) {
                    least = fits[d * WIDTH + row[d]];
                }
            }
            return least;
        }

        int toPart() {
            int parted = 0;
            for (int d = 0; d < forge.downs.size; d++) {
                parted += before[d] != MOST && row[d] != before[d] ? 1 : 0;
            }
            return parted;
        }

        int toRivet() {
            int riveted = 0;
            for (int d = 0; d < forge.downs.size; d++) {
                riveted += row[d] != MOST && row[d] != before[d] ? 1 : 0;
            }
            return riveted;
        }

        int settlings(Forge f) {
            pick(f, TOLD_ROW);
            for (int times = 0; times <= SETTLES_MOST; times++) {
                int couple = firstLeaving();
                if (couple == NONE) {
                    return times;
                }
                rivetAnew(couple / MOST, couple % MOST);
            }
            return NONE;
        }

        private void rivetAnew(int d, int u) {
            if (d < 0 || d >= MOST || u < 0 || u >= MOST) {
                return;
            }
            if (row[d] < MOST) {
                mate[row[d]] = MOST;
            }
            if (mate[u] < MOST) {
                row[mate[u]] = MOST;
            }
            couple(d, u);
        }

        /** LINE: of the last generation DOWNS, FITS or LENGTHS. */
        int descend(Forge f, int generations, int what) {
            pick(f, ASKED);
            for (int i = 0; i < generations; i++) {
                bearChildren();
                pick(children, ASKED);
            }
            if (what == 0) {
                return forge.downs.size;
            }
            return what == 1 ? sumOfFits() : sumOfLengths();
        }

        private void bearChildren() {
            children.clear();
            Blades downs = forge.downs;
            Blades ups = forge.ups;
            for (int d = 0; d < downs.size && d < MOST; d++) {
                int u = row[d];
                if (ups.has(u)) {
                    int half = (downs.length[d] + ups.length[u]) / 2;
                    children.downs.add(half, downs.steel[d], 10, downs.hand[d]);
                    children.ups.add(half, ups.steel[u], 10, ups.hand[u]);
                }
            }
        }

        private int sumOfLengths() {
            int sum = 0;
            for (int d = 0; d < forge.downs.size; d++) {
                sum += forge.downs.length[d];
            }
            return sum;
        }
    }

    /** TRADE, SWAP and HIRE: UPS that go from one DOWN to another. */
    private static final class Market {
        /** Above all the wages that can be risen, the UPS that can be taken, the DOWNS that can leave. */
        private static final int BIDS_MOST = 1000;

        final int[] got = new int[MOST];
        final int[] wages = new int[MOST];
        int ringsClosed = 0;
        private final int[] holder = new int[MOST];
        private int leftBits = 0;

        void exchange(Forge f) {
            Arrays.fill(got, NONE);
            ringsClosed = 0;
            int staying = 0;
            for (int d = 0; d < f.downs.size; d++) {
                staying |= f.upOf(d) != NONE ? 1 << d : 0;
            }
            for (int i = 0; i < MOST && staying != 0; i++) {
                staying &= ~closeRing(f, staying);
            }
        }

        /** Answers who is in the ring; each of them has got the UP of the one he points at. */
        private int closeRing(Forge f, int staying) {
            int at = pointedBy(f, staying, NONE);
            // Whoever begins, so many steps end in a ring.
            for (int i = 0; i < MOST; i++) {
                at = pointedBy(f, staying, at);
            }
            int ring = 0;
            for (int i = 0; i < MOST && at != NONE && (ring >> at & 1) == 0; i++) {
                ring |= 1 << at;
                int next = pointedBy(f, staying, at);
                got[at] = f.upOf(next);
                at = next;
            }
            ringsClosed++;
            return ring;
        }

        /** Of those staying, the one whose UP a DOWN likes best; for NONE the first one. */
        private static int pointedBy(Forge f, int staying, int d) {
            int best = NONE;
            for (int e = 0; e < f.downs.size; e++) {
                boolean stays = (staying >> e & 1) == 1;
                if (stays && (best == NONE || (d != NONE && f.downLikesMore(d, f.upOf(e), f.upOf(best))))) {
                    best = e;
                }
            }
            return best;
        }

        int exchanged(Forge f) {
            int other = 0;
            for (int d = 0; d < f.downs.size; d++) {
                other += f.upOf(d) != NONE && got[d] != f.upOf(d) ? 1 : 0;
            }
            return other;
        }

        int bestSwap(Forge f, boolean gain) {
            int best = NONE;
            int most = 0;
            for (int a = 0; a < f.downs.size; a++) {
                for (int b = a + 1; b < f.downs.size; b++) {
                    int more = swapGain(f, a, b);
                    if (more > most) {
                        most = more;
                        best = MOST * a + b;
                    }
                }
            }
            return gain && best != NONE ? most : best;
        }

        private static int swapGain(Forge f, int a, int b) {
            int ofA = f.upOf(a);
            int ofB = f.upOf(b);
            if (ofA == NONE || ofB == NONE) {
                return 0;
            }
            return f.fitOf(a, ofB) + f.fitOf(b, ofA) - f.fitOf(a, ofA) - f.fitOf(b, ofB);
        }

        void bidAll(Forge f) {
            Arrays.fill(got, NONE);
            Arrays.fill(holder, NONE);
            Arrays.fill(wages, 0);
            leftBits = 0;
            for (int i = 0; i < BIDS_MOST; i++) {
                int d = nextBidder(f);
                if (d == NONE) {
                    break;
                }
                bid(f, d);
            }
        }

        private int nextBidder(Forge f) {
            for (int d = 0; d < f.downs.size && d < MOST; d++) {
                if (got[d] == NONE && (leftBits >> d & 1) == 0) {
                    return d;
                }
            }
            return NONE;
        }

        private void bid(Forge f, int d) {
            int u = bestWorth(f, d);
            if (u == NONE || f.fitOf(d, u) < wages[u]) {
                leftBits |= 1 << d;
                return;
            }
            if (holder[u] != NONE) {
                wages[u]++;
                got[holder[u]] = NONE;
            }
            holder[u] = d;
            got[d] = u;
        }

        private int bestWorth(Forge f, int d) {
            int best = NONE;
            for (int u = 0; u < f.ups.size && u < MOST; u++) {
                if (best == NONE || f.fitOf(d, u) - wages[u] > f.fitOf(d, best) - wages[best]) {
                    best = u;
                }
            }
            return best;
        }
    }

    /** WORKS, CREW and SHARE: which PAIRS cut which CLOTHS. */
    private static final class Workshop {
        /** A number that as many as cut one CLOTH, 1 to 6, divide. */
        private static final int SHARE_UNIT = 60;
        private static final int SETS = 1 << MOST;

        final int[] bestRow = new int[MOST];
        int best = 0;
        private final int[] row = new int[MOST];
        /** CLOTHS in the order of their DAYS. */
        private final int[] byDay = new int[MOST];
        /** Whether a PAIR can cut all of a set of CLOTHS. */
        private final boolean[] manages = new boolean[MOST * SETS];
        private final int[] taken = new int[MOST];
        /** PRICES of the CLOTHS from one on that anybody can cut at all. */
        private final int[] ahead = new int[MOST + 1];

        void plan(Forge f) {
            orderByDay(f);
            for (int d = 0; d < MOST; d++) {
                for (int set = 0; set < SETS; set++) {
                    manages[d * SETS + set] = managesSet(f, d, set);
                }
            }
            sumAhead(f);
            Arrays.fill(taken, 0);
            Arrays.fill(row, MOST);
            Arrays.fill(bestRow, MOST);
            best = NONE;
            assign(this, f, 0, 0);
        }

        private void orderByDay(Forge f) {
            int n = 0;
            for (int day = 0; day <= 9; day++) {
                for (int c = 0; c < f.cloths; c++) {
                    if (f.day[c] == day && n < MOST) {
                        byDay[n] = c;
                        n++;
                    }
                }
            }
        }

        private boolean managesSet(Forge f, int d, int set) {
            int worn = 0;
            int lastDay = NONE;
            for (int i = 0; i < f.cloths && i < MOST; i++) {
                int c = byDay[i];
                if ((set >> c & 1) == 1) {
                    if (f.day[c] == lastDay || !f.cutsWorn(d, c, worn)) {
                        return false;
                    }
                    lastDay = f.day[c];
                    worn++;
                }
            }
            return true;
        }

        private void sumAhead(Forge f) {
            Arrays.fill(ahead, 0);
            for (int c = MOST - 1; c >= 0; c--) {
                ahead[c] = ahead[c + 1] + (f.hasCloth(c) && anybodyCuts(c) ? f.price[c] : 0);
            }
        }

        private boolean anybodyCuts(int c) {
            boolean cut = false;
            for (int d = 0; d < MOST && !cut; d++) {
                cut = manages[d * SETS + (1 << c)];
            }
            return cut;
        }

        /** CLOTH by CLOTH, rows in the order of numbers, so that only a better one takes the place. */
        private static void assign(Workshop shop, Forge f, int c, int sum) {
            if (c < 0 || c > MOST || sum + shop.ahead[c] <= shop.best) {
                return;
            }
            if (c >= f.cloths || c >= MOST) {
                shop.keepRow(sum);
                return;
            }
            for (int d = 0; d < f.downs.size && d < MOST; d++) {
                int set = shop.taken[d] | 1 << c;
                if (f.upOf(d) != NONE && shop.manages[d * SETS + set]) {
                    shop.taken[d] = set;
                    shop.row[c] = d;
                    assign(shop, f, c + 1, sum + f.price[c]);
                    shop.taken[d] = set & ~(1 << c);
                }
            }
            shop.row[c] = MOST;
            assign(shop, f, c + 1, sum);
        }

        private void keepRow(int prices) {
            best = prices;
            System.arraycopy(row, 0, bestRow, 0, MOST);
        }

        private static int cutters(Forge f, int c) {
            int cutters = 0;
            for (int d = 0; d < f.downs.size; d++) {
                cutters += f.cutsWorn(d, c, 0) ? 1 : 0;
            }
            return cutters;
        }

        int fewest(Forge f) {
            int fewest = NONE;
            for (int crew = 0; crew < SETS; crew++) {
                boolean fewer = fewest == NONE || Integer.bitCount(crew) < Integer.bitCount(fewest);
                if (fewer && cutsAll(f, crew)) {
                    fewest = crew;
                }
            }
            return fewest;
        }

        /** A crew with one who is in no PAIR cuts no less without him, and is fewer then. */
        private static boolean cutsAll(Forge f, int crew) {
            for (int c = 0; c < f.cloths; c++) {
                boolean cut = false;
                for (int d = 0; d < MOST && !cut; d++) {
                    cut = (crew >> d & 1) == 1 && f.cutsWorn(d, c, 0);
                }
                if (!cut) {
                    return false;
                }
            }
            return true;
        }

        /** In all orders alike each of those who cut a CLOTH is the first as often: they share its PRICE. */
        int sharedPrices(Forge f, int d) {
            int sum = 0;
            for (int c = 0; c < f.cloths; c++) {
                int cutters = cutters(f, c);
                if (cutters > 0 && f.cutsWorn(d, c, 0)) {
                    sum += f.price[c] * (SHARE_UNIT / cutters);
                }
            }
            return sum;
        }
    }

    /** GRIND, MOMENT and TAILORS, which ask for no FORGE. */
    private static final class Games {
        private static final int GRIND_DAYS = 30;
        private static final int EDGES = EDGE_MOST + 1;
        private static final int CALLS = 21;

        /** The most in so many days from an EDGE on. */
        private final int[] earned = new int[(GRIND_DAYS + 1) * EDGES];
        /** The mean is this by scale. */
        long mean = 0;
        long scale = 1;
        boolean now = false;
        /** The most one can win, whatever the other one calls. */
        private final int[] firstBest = new int[CALLS];
        private final int[] secondBest = new int[CALLS];
        private int firstCost = 0;
        private int secondCost = 0;

        void weighGrinding(int days) {
            Arrays.fill(earned, 0);
            for (int left = 1; left <= days && left <= GRIND_DAYS; left++) {
                for (int edge = 0; edge < EDGES; edge++) {
                    int ground = earned[(left - 1) * EDGES + Math.min(EDGE_MOST, edge + 5)];
                    int cut = edge + earned[(left - 1) * EDGES + Math.max(0, edge - 1)];
                    earned[left * EDGES + edge] = Math.max(cut, ground);
                }
            }
        }

        int mostEarned(int days, int edge) {
            int at = days * EDGES + edge;
            return at >= 0 && at < earned.length ? earned[at] : 0;
        }

        /** One cuts as long as that is as good, so the first day to grind is the latest. */
        int firstGrinding(int days, int edge) {
            int e = edge;
            for (int day = 0; day < days; day++) {
                int less = Math.max(0, e - 1);
                if (e + mostEarned(days - day - 1, less) < mostEarned(days - day, e)) {
                    return day;
                }
                e = less;
            }
            return NONE;
        }

        /** From the last rag back to the first, by tenths of tenths. */
        void weighMoment(int wear, int worth, int rags) {
            scale = 1;
            mean = (long) worth * (Math.min(9, wear + rags) + 1);
            now = true;
            for (int cut = rags - 1; cut >= 0; cut--) {
                int w = Math.min(9, wear + cut);
                scale *= 10;
                long atOnce = worth * (w + 1) * scale;
                long later = (10 - w) * mean;
                now = atOnce >= later;
                mean = Math.max(atOnce, later);
            }
        }

        void weighCalls(int c, int d) {
            firstCost = c;
            secondCost = d;
            for (int call = 0; call < CALLS; call++) {
                firstBest[call] = firstWins(0, call);
                secondBest[call] = secondWins(call, 0);
                for (int other = 1; other < CALLS; other++) {
                    firstBest[call] = Math.max(firstBest[call], firstWins(other, call));
                    secondBest[call] = Math.max(secondBest[call], secondWins(call, other));
                }
            }
        }

        private int firstWins(int first, int second) {
            return first <= second ? first - firstCost : 0;
        }

        private int secondWins(int first, int second) {
            return second < first ? second - secondCost : 0;
        }

        private boolean isRest(int first, int second) {
            return firstWins(first, second) == firstBest[second] && secondWins(first, second) == secondBest[first];
        }

        int rests() {
            int rests = 0;
            for (int i = 0; i < CALLS * CALLS; i++) {
                rests += isRest(i / CALLS, i % CALLS) ? 1 : 0;
            }
            return rests;
        }

        int restAt(int k) {
            int before = 0;
            for (int i = 0; i < CALLS * CALLS; i++) {
                if (isRest(i / CALLS, i % CALLS)) {
                    if (before == k) {
                        return i;
                    }
                    before++;
                }
            }
            return NONE;
        }

        int mostlySelling() {
            int first = 0;
            int second = 0;
            for (int i = 0; i < CALLS * CALLS; i++) {
                if (isRest(i / CALLS, i % CALLS)) {
                    first += i / CALLS <= i % CALLS ? 1 : 0;
                    second += i / CALLS > i % CALLS ? 1 : 0;
                }
            }
            if (first + second == 0) {
                return NONE;
            }
            return second > first ? 1 : 0;
        }
    }
}

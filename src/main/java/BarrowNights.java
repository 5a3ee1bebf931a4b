/** Barrows that take lodgers by the night, and the walkers on the down; ../shared/DOC.md tells what each call promises. */
public final class BarrowNights {
    public static final int UNKNOWN = -1, OUTSIDE = -2, STATE = -3, FULL = -4, NONE = -9;
    public static final long LOST = Long.MIN_VALUE;

    private static final int NULL = 1, CAST = 2, INDEX = 3, SIZE = 4;
    private static final int FAULTED = -10, BROKEN = -100;
    private static final int ROUND = 0, LONG = 1, RING = 2;
    private static final int MOST = 5, LAST_PLACE = 9, MOST_BEDS = 4, LAST_LANE = 2;
    private static final int ACT_NIGHTS = 8, ACT_LEAVE = 9, NO_DREAM = 99, LANDLORD = 10;

    private final Sheets sheets;
    private final Text text;
    private final Down now;
    private final Season told;
    private final Housing housing;
    private final Lying lying;
    private final Readings readings;
    private int trace;
    private int fault;

    public BarrowNights() {
        sheets = new Sheets();
        text = new Text();
        now = new Down();
        told = new Season();
        housing = new Housing();
        lying = new Lying();
        readings = new Readings();
        trace = 0;
        fault = 0;
    }

    // ---- 1 the down

    public int down(int sheet, int lane, int i, int n) {
        fault = 0;
        if (!Sheets.isSheet(sheet)) return UNKNOWN;
        if (!isLane(lane)) return OUTSIDE;
        fault = sheets.faultOfRow(sheet, lane);
        if (fault == 0 && n < 0) fault = SIZE;
        if (fault == 0) fault = sheets.faultOfCells(sheet, i, n);
        if (fault != 0) return FAULTED - fault;
        text.load(sheets, sheet, i, n);
        int broken = text.firstFault();
        if (broken != NONE) return BROKEN - broken;
        text.makeAnew(now);
        readings.count = 0;
        return now.barrows;
    }

    public int ofBarrow(int b, int what) {
        if (!now.hasBarrow(b)) return UNKNOWN;
        switch (what) {
            case 0: return now.kind[b];
            case 1: return now.beds[b];
            case 2: return now.pence[b];
            case 3: return now.site[b];
            case 4: return now.holdsOf(b);
            case 5: return now.lodgersOf(b);
            default: return OUTSIDE;
        }
    }

    public int ofWalker(int w, int what) {
        if (!now.hasWalker(w)) return UNKNOWN;
        switch (what) {
            case 0: return now.means[w];
            case 1: return now.place[w];
            case 2: return now.reach[w];
            case 3: return now.lodging[w];
            case 4: return now.cold[w];
            case 5: return now.dreamOf(w);
            default: return OUTSIDE;
        }
    }

    public int charge(int b, int v) {
        if (!now.hasBarrow(b)) return UNKNOWN;
        if (v < 0 || v > 9) return OUTSIDE;
        int was = now.pence[b];
        now.pence[b] = v;
        return was;
    }

    public int earn(int w, int v) {
        if (!now.hasWalker(w)) return UNKNOWN;
        if (v < 0 || v > 99) return OUTSIDE;
        int was = now.means[w];
        now.means[w] = v;
        return was;
    }

    // ---- 2 nights

    public int lodge(int w, int b) {
        if (!now.hasWalker(w) || !now.hasBarrow(b)) return UNKNOWN;
        if (!now.enter(w, b)) return STATE;
        return Integer.bitCount(now.lodgersOf(b));
    }

    public int leave(int w) {
        if (!now.hasWalker(w)) return UNKNOWN;
        int b = now.lodging[w];
        if (!now.goOut(w)) return STATE;
        return b;
    }

    public int night(int n) {
        if (n < 1 || n > 30) return OUTSIDE;
        if (!now.isThere()) return STATE;
        return now.passNights(n);
    }

    public int season(int sheet, int lane, int i, int n, int what) {
        fault = 0;
        if (!Sheets.isSheet(sheet)) return UNKNOWN;
        if (!isLane(lane) || n < 0 || n > 20 || !Season.isWhat(what)) return OUTSIDE;
        fault = sheets.faultOfRow(sheet, lane);
        if (fault == 0) fault = sheets.faultOfCells(sheet, i, 2 * n);
        if (fault != 0) return FAULTED - fault;
        if (!now.isThere()) return STATE;
        int refused = told.load(now, sheets, sheet, i, n);
        if (refused != 0) return refused;
        told.play();
        return told.answerTo(what);
    }

    // ---- 3 who is housed

    public int housed(int k) {
        if (k < -2 || k >= MOST) return OUTSIDE;
        if (!now.isThere()) return STATE;
        housing.search(now, NONE);
        if (k == -2) return housing.most;
        if (k == -1) return housing.least;
        return now.hasWalker(k) && now.hasBarrow(housing.best[k]) ? housing.best[k] : NONE;
    }

    public int ploughed(int b) {
        if (!now.hasBarrow(b)) return UNKNOWN;
        housing.search(now, b);
        return housing.most;
    }

    public int way(int w, int place) {
        if (!now.hasWalker(w)) return UNKNOWN;
        if (place < 0 || place > LAST_PLACE) return OUTSIDE;
        return now.fewestTo(w, place);
    }

    public int lain(int sheet, int lane, int i, int k) {
        fault = 0;
        if (!Sheets.isSheet(sheet)) return UNKNOWN;
        if (!isLane(lane) || k < -1 || k >= MOST) return OUTSIDE;
        if (!now.isThere()) return STATE;
        fault = sheets.faultOfRow(sheet, lane);
        if (fault == 0) fault = sheets.faultOfCells(sheet, i, now.walkers);
        if (fault != 0) return FAULTED - fault;
        lying.load(sheets, sheet, i, now.walkers);
        lying.search(now, k >= 0);
        if (k == -1) return lying.ways;
        if (lying.ways == 0 || !now.hasWalker(k)) return NONE;
        return now.hasBarrow(lying.first[k]) ? lying.first[k] : NONE;
    }

    // ---- 4 when it was full

    public int reading(int b, int lodgers, int full) {
        if (!now.hasBarrow(b)) return UNKNOWN;
        if (lodgers < 0 || lodgers > 9 || full < 0 || full > 1) return OUTSIDE;
        if (!readings.hasRoom()) return FULL;
        return readings.note(b, lodgers, full);
    }

    public int back(int k) {
        if (k < 0 || k > readings.count) return OUTSIDE;
        readings.count -= k;
        return readings.count;
    }

    public int rooms(int b) {
        if (!now.hasBarrow(b)) return UNKNOWN;
        int set = 0;
        for (int beds = 1; beds <= MOST_BEDS; beds++) {
            if (readings.areSo(now, b, holdsAs(now.kind[b], beds))) set |= 1 << beds;
        }
        return set;
    }

    public int kinds(int b) {
        if (!now.hasBarrow(b)) return UNKNOWN;
        int set = 0;
        for (int kind = ROUND; kind <= RING; kind++) {
            if (readings.areSo(now, b, holdsAs(kind, now.beds[b]))) set |= 1 << kind;
        }
        return set;
    }

    public long odds(int b, int which) {
        if (!now.hasBarrow(b) || which < 0 || which > 1) return LOST;
        long upper = now.waysToFill(b);
        long lower = power(now.barrows + 1, now.walkers);
        long part = commonPart(upper, lower);
        if (part < 1) return LOST;
        return which == 0 ? upper / part : lower / part;
    }

    // ---- 5 sheets, parts

    public int sheet(int k, int lane, int n) {
        fault = 0;
        if (!Sheets.isSheet(k)) return UNKNOWN;
        if (!isLane(lane) || n > Sheets.CELLS) return OUTSIDE;
        if (n < 0) fault = SIZE;
        if (fault != 0) return FAULTED - fault;
        sheets.renew(k, lane, n);
        return 1;
    }

    public int lose(int k) {
        if (!Sheets.isSheet(k)) return UNKNOWN;
        if (sheets.hasNothing(k)) return 0;
        sheets.empty(k);
        return 1;
    }

    public int put(int k, int i, int v) {
        fault = 0;
        if (!Sheets.isSheet(k)) return UNKNOWN;
        if (sheets.hasNothing(k)) fault = NULL;
        if (fault == 0) fault = sheets.faultOfCell(k, i);
        if (fault != 0) return FAULTED - fault;
        sheets.setAt(k, i, v);
        return 1;
    }

    public long cell(int k, int i, int lane) {
        fault = 0;
        if (!Sheets.isSheet(k) || !isLane(lane)) return LOST;
        fault = sheets.faultOfRow(k, lane);
        if (fault == 0) fault = sheets.faultOfCell(k, i);
        if (fault != 0) return LOST;
        return sheets.valueAt(k, i);
    }

    public int copy(int k, int i, int other, int j, int n) {
        fault = 0;
        if (!Sheets.isSheet(k) || !Sheets.isSheet(other)) return UNKNOWN;
        fault = sheets.faultOfPair(k, other);
        if (fault == 0) fault = sheets.faultOfCells(k, i, n);
        if (fault == 0) fault = sheets.faultOfCells(other, j, n);
        if (fault != 0) return FAULTED - fault;
        sheets.move(k, i, other, j, n);
        return n;
    }

    public int tell(int b) {
        if (!now.hasBarrow(b)) return UNKNOWN;
        switch (now.kind[b]) {
            case RING: return ringBody(b);
            case LONG: return longBody(b);
            default: return roundBody(b);
        }
    }

    public int haunt(int b) {
        if (!now.hasBarrow(b)) return UNKNOWN;
        return now.kind[b] == RING ? ringHaunt() : lentHaunt(b);
    }

    public int as(int b, int kind) {
        fault = 0;
        if (!now.hasBarrow(b)) return UNKNOWN;
        if (kind < ROUND || kind > RING) return OUTSIDE;
        // Each kind is also one of every kind with a lesser number.
        if (now.kind[b] < kind) fault = CAST;
        return fault == 0 ? 1 : FAULTED - fault;
    }

    public int trace() {
        return trace;
    }

    public int fault() {
        return fault;
    }

    public int many(int what) {
        switch (what) {
            case 0: return now.barrows;
            case 1: return now.walkers;
            case 2: return now.nights;
            case 3: return Integer.bitCount(now.allLodgers());
            case 4: return readings.count;
            default: return OUTSIDE;
        }
    }

    // The bodies of tell and haunt; each leaves its number as it begins.

    private void begin(int body) {
        trace = 31 * trace + body;
    }

    private int roundBody(int b) {
        begin(1);
        return now.hasBarrow(b) ? now.beds[b] : 0;
    }

    private int longBody(int b) {
        begin(2);
        return roundBody(b) + 100;
    }

    private int ringBody(int b) {
        begin(3);
        int asLong = longBody(b);
        return asLong + roundBody(b);
    }

    private int lentHaunt(int b) {
        begin(4);
        return b;
    }

    private int ringHaunt() {
        begin(5);
        return 70;
    }

    // Small sums that several parts share.

    private static boolean isLane(int lane) {
        return lane >= 0 && lane <= LAST_LANE;
    }

    private static int holdsAs(int kind, int beds) {
        switch (kind) {
            case RING: return beds + 1;
            case LONG: return 2 * beds;
            default: return beds;
        }
    }

    private static boolean isNear(int from, int to, int reach) {
        return Math.abs(from - to) <= reach;
    }

    private static long power(long base, int times) {
        long all = 1;
        for (int t = 0; t < times; t++) all *= base;
        return all;
    }

    /** How many sets of k there are among n; every quotient on the way is whole. */
    private static long choices(int n, int k) {
        long all = 1;
        for (int t = 1; t <= k; t++) all = all * (n - k + t) / t;
        return all;
    }

    /** The greatest number that divides both; the remainders fall so fast that 100 steps are plenty. */
    private static long commonPart(long a, long b) {
        long more = a;
        long less = b;
        for (int step = 0; step < 100 && less != 0; step++) {
            long rest = more % less;
            more = less;
            less = rest;
        }
        return more;
    }

    /** The four sheets; a lane below 0 says that a sheet has nothing. */
    private static final class Sheets {
        private static final int SHEETS = 4, CELLS = 60, NOTHING = -1;

        private final int[] lanes = {NOTHING, NOTHING, NOTHING, NOTHING};
        private final int[] sizes = new int[SHEETS];
        private final int[] cells = new int[SHEETS * CELLS];

        private static boolean isSheet(int k) {
            return k >= 0 && k < SHEETS;
        }

        private boolean hasNothing(int k) {
            return !isSheet(k) || lanes[k] == NOTHING;
        }

        /** What taking a sheet as a row of a lane comes to; nothing can be taken as a row of any lane. */
        private int faultOfRow(int k, int lane) {
            if (hasNothing(k)) return NULL;
            return lanes[k] == lane ? 0 : CAST;
        }

        private int faultOfPair(int k, int other) {
            if (hasNothing(k) || hasNothing(other)) return NULL;
            return lanes[k] == lanes[other] ? 0 : CAST;
        }

        private int faultOfCell(int k, int i) {
            return isSheet(k) && i >= 0 && i < sizes[k] ? 0 : INDEX;
        }

        private int faultOfCells(int k, int i, int n) {
            if (!isSheet(k) || i < 0 || n < 0) return INDEX;
            return (long) i + n <= sizes[k] ? 0 : INDEX;
        }

        private void renew(int k, int lane, int n) {
            if (!isSheet(k) || n < 0 || n > CELLS) return;
            lanes[k] = lane;
            sizes[k] = n;
            for (int i = 0; i < n; i++) cells[k * CELLS + i] = 0;
        }

        private void empty(int k) {
            if (!isSheet(k)) return;
            lanes[k] = NOTHING;
            sizes[k] = 0;
        }

        private int valueAt(int k, int i) {
            return faultOfCell(k, i) == 0 ? cells[k * CELLS + i] : 0;
        }

        private void setAt(int k, int i, int v) {
            if (faultOfCell(k, i) == 0) cells[k * CELLS + i] = cut(v, lanes[k]);
        }

        private static int cut(int v, int lane) {
            switch (lane) {
                case 0: return (byte) v;
                case 1: return (short) v;
                default: return v;
            }
        }

        /** System.arraycopy takes the cells as they were, where the two stretches overlap too. */
        private void move(int k, int i, int other, int j, int n) {
            if (faultOfCells(k, i, n) != 0 || faultOfCells(other, j, n) != 0) return;
            System.arraycopy(cells, k * CELLS + i, cells, other * CELLS + j, n);
        }
    }

    /** The codes of a told down. */
    private static final class Text {
        private static final int OF_BARROW = 5, OF_WALKER = 4, BEHIND = -1;

        private final int[] codes = new int[Sheets.CELLS];
        private int length;
        private int barrows;
        private int walkers;

        private void load(Sheets sheets, int k, int i, int n) {
            length = Math.max(0, Math.min(n, Sheets.CELLS));
            for (int p = 0; p < length; p++) codes[p] = sheets.valueAt(k, i + p);
        }

        private int codeAt(int p) {
            return p >= 0 && p < length ? codes[p] : BEHIND;
        }

        private boolean isDigit(int p, char least, char most) {
            return codeAt(p) >= least && codeAt(p) <= most;
        }

        private int digitAt(int p) {
            return codeAt(p) - '0';
        }

        private int kindAt(int p) {
            switch (codeAt(p)) {
                case 'r': return ROUND;
                case 'l': return LONG;
                case 'g': return RING;
                default: return NONE;
            }
        }

        /** Where the first code stands with which no text goes on; the end, if it is too soon; NONE. */
        private int firstFault() {
            barrows = 0;
            walkers = 0;
            if (codeAt(0) != 'd') return 0;
            int p = 1;
            for (int b = 0; b < MOST && (b == 0 || codeAt(p) == ';'); b++) {
                int stop = stopInBarrow(p);
                if (stop != p + OF_BARROW) return stop;
                p = stop;
                barrows++;
            }
            for (int w = 0; w < MOST && (w == 0 || codeAt(p) == ','); w++) {
                int stop = stopInWalker(p);
                if (stop != p + OF_WALKER) return stop;
                p = stop;
                walkers++;
            }
            return p < length ? p : NONE;
        }

        private int stopInBarrow(int p) {
            if (codeAt(p) != ';') return p;
            if (kindAt(p + 1) == NONE) return p + 1;
            if (!isDigit(p + 2, '1', '4')) return p + 2;
            if (!isDigit(p + 3, '0', '9')) return p + 3;
            if (!isDigit(p + 4, '0', '9')) return p + 4;
            return p + OF_BARROW;
        }

        private int stopInWalker(int p) {
            if (codeAt(p) != ',') return p;
            if (!isDigit(p + 1, '0', '9')) return p + 1;
            if (!isDigit(p + 2, '0', '9')) return p + 2;
            if (!isDigit(p + 3, '1', '9')) return p + 3;
            return p + OF_WALKER;
        }

        /** Only behind a firstFault that found none. */
        private void makeAnew(Down down) {
            down.barrows = barrows;
            down.walkers = walkers;
            down.nights = 0;
            int p = 1;
            for (int b = 0; b < barrows; b++) {
                down.kind[b] = kindAt(p + 1);
                down.beds[b] = digitAt(p + 2);
                down.pence[b] = digitAt(p + 3);
                down.site[b] = digitAt(p + 4);
                p += OF_BARROW;
            }
            for (int w = 0; w < walkers; w++) {
                down.means[w] = digitAt(p + 1);
                down.place[w] = digitAt(p + 2);
                down.reach[w] = digitAt(p + 3);
                down.lodging[w] = NONE;
                down.cold[w] = 0;
                p += OF_WALKER;
            }
        }
    }

    /** The barrows and walkers as they are at one time; without barrows there is no down. */
    private static final class Down {
        private int barrows;
        private int walkers;
        private int nights;
        private final int[] kind = new int[MOST];
        private final int[] beds = new int[MOST];
        private final int[] pence = new int[MOST];
        private final int[] site = new int[MOST];
        private final int[] means = new int[MOST];
        private final int[] place = new int[MOST];
        private final int[] reach = new int[MOST];
        private final int[] lodging = new int[MOST];
        private final int[] cold = new int[MOST];

        private boolean isThere() {
            return barrows > 0;
        }

        private boolean hasBarrow(int b) {
            return b >= 0 && b < barrows;
        }

        private boolean hasWalker(int w) {
            return w >= 0 && w < walkers;
        }

        private void become(Down other) {
            barrows = other.barrows;
            walkers = other.walkers;
            nights = other.nights;
            for (int b = 0; b < barrows; b++) {
                kind[b] = other.kind[b];
                beds[b] = other.beds[b];
                pence[b] = other.pence[b];
                site[b] = other.site[b];
            }
            for (int w = 0; w < walkers; w++) {
                means[w] = other.means[w];
                place[w] = other.place[w];
                reach[w] = other.reach[w];
                lodging[w] = other.lodging[w];
                cold[w] = other.cold[w];
            }
        }

        private int holdsOf(int b) {
            return hasBarrow(b) ? holdsAs(kind[b], beds[b]) : 0;
        }

        private int lodgersOf(int b) {
            int set = 0;
            for (int w = 0; w < walkers; w++) {
                if (lodging[w] == b) set |= 1 << w;
            }
            return set;
        }

        private int allLodgers() {
            int set = 0;
            for (int w = 0; w < walkers; w++) {
                if (hasBarrow(lodging[w])) set |= 1 << w;
            }
            return set;
        }

        private int dreamOf(int w) {
            if (!hasWalker(w) || !hasBarrow(lodging[w])) return NONE;
            for (int other = w - 1; other >= 0; other--) {
                if (lodging[other] == lodging[w]) return other;
            }
            return LANDLORD + lodging[w];
        }

        /** Whether it could lodge there if the barrow had room. */
        private boolean suits(int w, int b) {
            if (!hasWalker(w) || !hasBarrow(b)) return false;
            return isNear(place[w], site[b], reach[w]) && pence[b] <= means[w];
        }

        private boolean enter(int w, int b) {
            if (!suits(w, b) || hasBarrow(lodging[w])) return false;
            if (Integer.bitCount(lodgersOf(b)) >= holdsOf(b)) return false;
            lodging[w] = b;
            place[w] = site[b];
            return true;
        }

        private boolean goOut(int w) {
            if (!hasWalker(w) || !hasBarrow(lodging[w])) return false;
            lodging[w] = NONE;
            return true;
        }

        private int passNights(int n) {
            int out = 0;
            for (int t = 0; t < n; t++) {
                for (int w = 0; w < walkers; w++) {
                    if (!paysOrGoes(w)) out++;
                }
                nights++;
            }
            return out;
        }

        /** The night of one walker; false if it is put out in it. */
        private boolean paysOrGoes(int w) {
            if (!hasWalker(w)) return true;
            int b = lodging[w];
            boolean lodges = hasBarrow(b);
            boolean pays = lodges && means[w] >= pence[b];
            if (pays) {
                means[w] -= pence[b];
            } else {
                lodging[w] = NONE;
                cold[w]++;
            }
            return pays || !lodges;
        }

        private int meansOfAll() {
            int sum = 0;
            for (int w = 0; w < walkers; w++) sum += means[w];
            return sum;
        }

        /** Wave by wave: the places where it may be behind so many barrows, as a set. */
        private int fewestTo(int w, int goal) {
            if (!hasWalker(w)) return NONE;
            int places = 1 << place[w];
            for (int count = 0; count <= barrows; count++) {
                if (isNearAny(places, goal, reach[w])) return count;
                places |= sitesNear(places, reach[w]);
            }
            return NONE;
        }

        private int sitesNear(int places, int far) {
            int set = 0;
            for (int b = 0; b < barrows; b++) {
                if (isNearAny(places, site[b], far)) set |= 1 << site[b];
            }
            return set;
        }

        private static boolean isNearAny(int places, int goal, int far) {
            for (int p = 0; p <= LAST_PLACE; p++) {
                if ((places >> p & 1) == 1 && isNear(p, goal, far)) return true;
            }
            return false;
        }

        /** Of all ways to lie anywhere, those in which a barrow has as many as it holds, or more. */
        private long waysToFill(int b) {
            long ways = 0;
            for (int in = holdsOf(b); in <= walkers; in++) {
                ways += choices(walkers, in) * power(barrows, walkers - in);
            }
            return ways;
        }
    }

    /** A told season, played on a down of its own so that nothing is changed. */
    private static final class Season {
        private static final int MOST_ACTS = 20;

        private final Down then = new Down();
        private final int[] first = new int[MOST_ACTS];
        private final int[] second = new int[MOST_ACTS];
        private int acts;
        private int firstWrong;
        private int putOut;

        private static boolean isWhat(int what) {
            return what >= 0 && what <= 3 || what >= 10 && what < 10 + MOST || what >= 20 && what < 20 + MOST;
        }

        /** Takes the pairs from a sheet: 0, or why the first ill-told pair is refused. */
        private int load(Down now, Sheets sheets, int k, int i, int n) {
            then.become(now);
            acts = Math.max(0, Math.min(n, MOST_ACTS));
            for (int a = 0; a < acts; a++) {
                first[a] = sheets.valueAt(k, i + 2 * a);
                second[a] = sheets.valueAt(k, i + 2 * a + 1);
                int refused = refusalOf(first[a], second[a]);
                if (refused != 0) return refused;
            }
            return 0;
        }

        private int refusalOf(int one, int two) {
            if (two == ACT_NIGHTS) return one < 0 || one > 9 ? OUTSIDE : 0;
            if (two != ACT_LEAVE && !then.hasBarrow(two)) return OUTSIDE;
            return then.hasWalker(one) ? 0 : UNKNOWN;
        }

        private void play() {
            firstWrong = NONE;
            putOut = 0;
            for (int a = 0; a < acts && firstWrong == NONE; a++) {
                if (!canDo(first[a], second[a])) firstWrong = a;
            }
        }

        /** Does the act, if it can be done. */
        private boolean canDo(int one, int two) {
            if (two == ACT_LEAVE) return then.goOut(one);
            if (two != ACT_NIGHTS) return then.enter(one, two);
            putOut += then.passNights(one);
            return true;
        }

        private int answerTo(int what) {
            if (what == 1) return firstWrong;
            if (firstWrong != NONE) return BROKEN - firstWrong;
            if (what == 0) return then.allLodgers();
            if (what == 2) return putOut;
            if (what == 3) return then.meansOfAll();
            int w = what % 10;
            if (!then.hasWalker(w)) return NONE;
            return what < 20 ? then.lodging[w] : then.cold[w];
        }
    }

    /** The search for how most are housed at the least price. */
    private static final class Housing {
        private final int[] row = new int[MOST];
        private final int[] best = new int[MOST];
        private final int[] left = new int[MOST];
        private int most;
        private int least;

        private void search(Down down, int without) {
            for (int b = 0; b < down.barrows; b++) left[b] = b == without ? 0 : down.holdsOf(b);
            most = NONE;
            least = 0;
            place(down, 0, 0, 0);
        }

        /** Rows come in their order, and only a better one is kept: so the first of the best stays. */
        private void place(Down down, int w, int count, int price) {
            int could = count + down.walkers - w;
            if (could < most || could == most && price >= least) return;
            if (!down.hasWalker(w)) {
                keep(down.walkers, count, price);
                return;
            }
            for (int b = 0; b < down.barrows; b++) {
                if (left[b] > 0 && down.suits(w, b)) {
                    left[b]--;
                    row[w] = b;
                    place(down, w + 1, count + 1, price + down.pence[b]);
                    left[b]++;
                }
            }
            row[w] = down.barrows;
            place(down, w + 1, count, price);
        }

        private void keep(int walkers, int count, int price) {
            most = count;
            least = price;
            for (int w = 0; w < walkers; w++) best[w] = row[w];
        }
    }

    /** The search for where all lay, by what they dreamt. */
    private static final class Lying {
        private final int[] dreams = new int[MOST];
        private final int[] row = new int[MOST];
        private final int[] first = new int[MOST];
        private final int[] left = new int[MOST];
        private final int[] latest = new int[MOST];
        private int ways;
        private boolean firstOnly;

        private void load(Sheets sheets, int k, int i, int n) {
            for (int w = 0; w < n && w < MOST; w++) dreams[w] = sheets.valueAt(k, i + w);
        }

        private void search(Down down, boolean oneIsEnough) {
            for (int b = 0; b < down.barrows; b++) {
                left[b] = down.holdsOf(b);
                latest[b] = LANDLORD + b;
            }
            ways = 0;
            firstOnly = oneIsEnough;
            lay(down, 0);
        }

        /** Walkers are laid by number, so the latest in a barrow is the one that the next there dreams of. */
        private void lay(Down down, int w) {
            if (firstOnly && ways > 0) return;
            if (!down.hasWalker(w)) {
                keep(down.walkers);
                return;
            }
            for (int b = 0; b < down.barrows; b++) {
                if (left[b] > 0 && isTold(w, latest[b])) layIn(down, w, b);
            }
            if (isTold(w, NO_DREAM)) {
                row[w] = down.barrows;
                lay(down, w + 1);
            }
        }

        private void layIn(Down down, int w, int b) {
            int before = latest[b];
            left[b]--;
            latest[b] = w;
            row[w] = b;
            lay(down, w + 1);
            latest[b] = before;
            left[b]++;
        }

        private boolean isTold(int w, int dream) {
            return dreams[w] == NONE || dreams[w] == dream;
        }

        private void keep(int walkers) {
            if (ways == 0) {
                for (int w = 0; w < walkers; w++) first[w] = row[w];
            }
            ways++;
        }
    }

    /** With how many lodgers which barrow was full, or not. */
    private static final class Readings {
        private static final int ROOM = 8;

        private final int[] barrow = new int[ROOM];
        private final int[] lodgers = new int[ROOM];
        private final int[] full = new int[ROOM];
        private int count;

        private boolean hasRoom() {
            return count < ROOM;
        }

        private int note(int b, int with, int wasFull) {
            if (!hasRoom()) return FULL;
            barrow[count] = b;
            lodgers[count] = with;
            full[count] = wasFull;
            count++;
            return count - 1;
        }

        /** Whether all readings are so, if one barrow held so many and the others what they hold. */
        private boolean areSo(Down down, int b, int holds) {
            for (int r = 0; r < count; r++) {
                int held = barrow[r] == b ? holds : down.holdsOf(barrow[r]);
                int isFull = held <= lodgers[r] ? 1 : 0;
                if (isFull != full[r]) return false;
            }
            return true;
        }
    }
}

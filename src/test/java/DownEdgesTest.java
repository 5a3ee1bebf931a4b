/** The edges of promises 1 to 6: a test for each sentence that names one. */
public final class DownEdgesTest {
    /** As long as a text can be: five BARROWS, five WALKERS, 46 codes. */
    private static final String LONGEST = "d;r100;l211;g322;r433;g199,001,112,223,334,998";
    private static final String DIGITS = "0123456789";

    public static void main(String[] args) {
        newObjectHasNoDown();
        newObjectHasNothingOnSheets();
        newObjectHasNoFaultAndNoTrace();
        downUnknown();
        downOutside();
        downCastAndNull();
        downSize();
        downIndex();
        downRowOfNoCells();
        downRowOfSixtyCells();
        downOrder();
        countsOfBarrowsAndWalkers();
        noBarrow();
        noWalker();
        sixthBarrow();
        sixthWalker();
        barrowBehindWalker();
        eachCodeAtEachPlace();
        eachDigitIsItsNumber();
        endsTooSoon();
        firstOfSeveralFaults();
        codesAreNotCut();
        textFromAPlaceOn();
        brokenTextChangesNothing();
        textMakesAllAnew();
        holds();
        ofBarrowUnknown();
        ofBarrowOutside();
        ofBarrowLodgers();
        ofWalkerUnknown();
        ofWalkerOutside();
        ofWalkerNone();
        ofWalkerDream();
        charge();
        chargeRefusals();
        earn();
        earnRefusals();
        Due.end();
    }

    // ---- promise 1

    /** "No DOWN (no BARROWS, WALKERS)" */
    private static void newObjectHasNoDown() {
        for (int what = 0; what <= 4; what++) {
            int asked = what;
            Edge.still("many(" + what + ") of a new object", BarrowNights::new, x -> x.many(asked), 0);
        }
        Edge.still("ofBarrow of a new object", BarrowNights::new, x -> x.ofBarrow(0, 0), -1);
        Edge.still("ofWalker of a new object", BarrowNights::new, x -> x.ofWalker(0, 0), -1);
        Edge.still("charge of a new object", BarrowNights::new, x -> x.charge(0, 0), -1);
        Edge.still("earn of a new object", BarrowNights::new, x -> x.earn(0, 0), -1);
        Edge.still("lodge of a new object", BarrowNights::new, x -> x.lodge(0, 0), -1);
        Edge.still("leave of a new object", BarrowNights::new, x -> x.leave(0), -1);
        Edge.still("night of a new object", BarrowNights::new, x -> x.night(1), -3);
        Edge.still("housed of a new object", BarrowNights::new, x -> x.housed(-2), -3);
        Edge.still("ploughed of a new object", BarrowNights::new, x -> x.ploughed(0), -1);
        Edge.still("way of a new object", BarrowNights::new, x -> x.way(0, 0), -1);
        Edge.still("lain of a new object", BarrowNights::new, x -> x.lain(0, 0, 0, -1), -3, 0);
        Edge.still("reading of a new object", BarrowNights::new, x -> x.reading(0, 0, 0), -1);
        Edge.still("rooms of a new object", BarrowNights::new, x -> x.rooms(0), -1);
        Edge.still("kinds of a new object", BarrowNights::new, x -> x.kinds(0), -1);
        Edge.still("odds of a new object", BarrowNights::new, x -> x.odds(0, 0), Edge.LOST);
        Edge.still("tell of a new object", BarrowNights::new, x -> x.tell(0), -1);
        Edge.still("haunt of a new object", BarrowNights::new, x -> x.haunt(0), -1);
        Edge.still("as of a new object", BarrowNights::new, x -> x.as(0, 0), -1, 0);
    }

    /** "SHEETS have nothing" */
    private static void newObjectHasNothingOnSheets() {
        for (int sheet = 0; sheet <= 3; sheet++) {
            int k = sheet;
            Edge.still("lose(" + k + ") of a new object", BarrowNights::new, x -> x.lose(k), 0);
            Edge.faults("put to " + k + " of a new object", BarrowNights::new, x -> x.put(k, 0, 1), 1);
            Edge.faults("down by " + k + " of a new object", BarrowNights::new, x -> x.down(k, 0, 0, 0), 1);
            Edge.faults("season by " + k + " of a new object", BarrowNights::new, x -> x.season(k, 0, 0, 0, 0), 1);
            Edge.faults("copy of " + k + " of a new object", BarrowNights::new, x -> x.copy(k, 0, k, 0, 0), 1);
            Edge.still("cell of " + k + " of a new object", BarrowNights::new, x -> x.cell(k, 0, 0), Edge.LOST, 1);
        }
    }

    private static void newObjectHasNoFaultAndNoTrace() {
        Due.is("fault() ahead of any", new BarrowNights().fault(), 0);
        Due.is("trace() at first", new BarrowNights().trace(), 0);
        BarrowNights x = new BarrowNights();
        Due.is("makes a fault", x.put(0, 0, 0), -11);
        Due.is("fault() of another object", new BarrowNights().fault(), 0);
    }

    // ---- promise 2: the refusals and faults

    private static void downUnknown() {
        for (int k : Edge.beyond(3)) {
            Edge.still("down by sheet " + k, Edge::busy, x -> x.down(k, 0, 0, 0), -1, 0);
        }
        for (int k = 0; k <= 3; k++) {
            BarrowNights x = new BarrowNights();
            Due.row(x, k, 0, codes("d;r100,001"));
            Due.is("down by sheet " + k, x.down(k, 0, 0, 10), 1);
        }
    }

    private static void downOutside() {
        for (int lane : Edge.beyond(2)) {
            Edge.still("down by lane " + lane, Edge::busy, x -> x.down(0, lane, 0, 37), -2, 0);
        }
        for (int lane = 0; lane <= 2; lane++) {
            BarrowNights x = new BarrowNights();
            Due.row(x, 1, lane, codes("d;r100,001"));
            Due.is("down by lane " + lane, x.down(1, lane, 0, 10), 1);
        }
    }

    /** "CAST (nothing is no CAST), NULL" */
    private static void downCastAndNull() {
        Edge.castsAndNulls("down", (x, k, lane) -> x.down(k, lane, 0, 0), false);
        for (int taken = 0; taken <= 2; taken++) {
            int lane = taken;
            Edge.faults("down by what was lost", () -> lost(lane), x -> x.down(2, lane, 0, 0), 1);
        }
    }

    private static BarrowNights lost(int lane) {
        BarrowNights x = Edge.busy();
        Due.is("a sheet", x.sheet(2, lane, 5), 1);
        Due.is("is lost", x.lose(2), 1);
        return x;
    }

    private static void downSize() {
        for (int n : new int[] {-1, -2, Edge.LEAST}) {
            Edge.faults("down of " + n + " cells", Edge::busy, x -> x.down(0, 0, 0, n), 4);
        }
        Edge.still("down of 0 cells", Edge::busy, x -> x.down(0, 0, 0, 0), -100, 0);
    }

    private static void downIndex() {
        int[][] beyond = {
            {-1, 0}, {-1, 1}, {-1, 37}, {0, 38}, {1, 37}, {36, 2}, {37, 1}, {38, 0}, {38, 1}, {Edge.LEAST, 0}, {Edge.LEAST, 1},
            {Edge.LEAST, Edge.GREATEST}, {Edge.GREATEST, 0}, {Edge.GREATEST, 1}, {0, Edge.GREATEST}, {1, Edge.GREATEST}, {37, Edge.GREATEST},
            {Edge.GREATEST, Edge.GREATEST},
        };
        for (int[] c : beyond) {
            Edge.faults("down of " + c[1] + " cells from " + c[0] + " on", Edge::busy, x -> x.down(0, 0, c[0], c[1]), 3);
        }
        Edge.still("down of the last cell", Edge::busy, x -> x.down(0, 0, 36, 1), -100, 0);
        Edge.still("down of no cells, from the end on", Edge::busy, x -> x.down(0, 0, 37, 0), -100, 0);
        BarrowNights x = Edge.busy();
        Due.is("down of all cells", x.down(0, 0, 0, 37), 4);
        Due.is("fault() behind it", x.fault(), 0);
    }

    private static BarrowNights emptyRow() {
        BarrowNights x = Edge.busy();
        Due.is("a row of 0 cells", x.sheet(3, 2, 0), 1);
        return x;
    }

    private static void downRowOfNoCells() {
        Edge.still("down of a row of 0 cells", DownEdgesTest::emptyRow, x -> x.down(3, 2, 0, 0), -100, 0);
        Edge.faults("its cell 0", DownEdgesTest::emptyRow, x -> x.down(3, 2, 0, 1), 3);
        Edge.faults("from 1 on", DownEdgesTest::emptyRow, x -> x.down(3, 2, 1, 0), 3);
        Edge.faults("from -1 on", DownEdgesTest::emptyRow, x -> x.down(3, 2, -1, 0), 3);
        Edge.faults("-1 cells of it", DownEdgesTest::emptyRow, x -> x.down(3, 2, 0, -1), 4);
        Edge.faults("as of another lane", DownEdgesTest::emptyRow, x -> x.down(3, 1, 0, 0), 2);
    }

    /** Sixty cells, the longest text last. */
    private static BarrowNights sixty() {
        BarrowNights x = new BarrowNights();
        int[] cells = new int[60];
        System.arraycopy(codes(LONGEST), 0, cells, 14, 46);
        Due.row(x, 3, 0, cells);
        return x;
    }

    private static void downRowOfSixtyCells() {
        BarrowNights x = sixty();
        Due.is("the last 46 of 60 cells", x.down(3, 0, 14, 46), 5);
        Edge.still("all 60 cells", DownEdgesTest::sixty, y -> y.down(3, 0, 0, 60), -100, 0);
        Edge.still("no cells from 60 on", DownEdgesTest::sixty, y -> y.down(3, 0, 60, 0), -100, 0);
        Edge.faults("61 cells", DownEdgesTest::sixty, y -> y.down(3, 0, 0, 61), 3);
        Edge.faults("one too many", DownEdgesTest::sixty, y -> y.down(3, 0, 14, 47), 3);
        Edge.faults("from 61 on", DownEdgesTest::sixty, y -> y.down(3, 0, 61, 0), 3);
    }

    /** "in the order in which a call's line tells them" */
    private static void downOrder() {
        Edge.still("UNKNOWN ahead of OUTSIDE", Edge::busy, x -> x.down(4, 3, 0, 0), -1, 0);
        Edge.still("UNKNOWN ahead of SIZE", Edge::busy, x -> x.down(4, 0, 0, -1), -1, 0);
        Edge.still("UNKNOWN ahead of INDEX", Edge::busy, x -> x.down(-1, 0, -1, 1), -1, 0);
        Edge.still("OUTSIDE ahead of NULL", Edge::busy, x -> x.down(3, 3, 0, 0), -2, 0);
        Edge.still("OUTSIDE ahead of SIZE", Edge::busy, x -> x.down(0, -1, 0, -1), -2, 0);
        Edge.still("OUTSIDE ahead of INDEX", Edge::busy, x -> x.down(0, 3, -1, 1), -2, 0);
        Edge.faults("CAST ahead of SIZE", Edge::busy, x -> x.down(0, 1, 0, -1), 2);
        Edge.faults("CAST ahead of INDEX", Edge::busy, x -> x.down(0, 1, 38, 1), 2);
        Edge.faults("NULL ahead of SIZE", Edge::busy, x -> x.down(3, 1, 0, -1), 1);
        Edge.faults("NULL ahead of INDEX", Edge::busy, x -> x.down(3, 1, -1, 1), 1);
        Edge.faults("SIZE ahead of INDEX", Edge::busy, x -> x.down(0, 0, -1, -1), 4);
        Edge.faults("SIZE ahead of INDEX, from behind the end", Edge::busy, x -> x.down(0, 0, 99, -1), 4);
        Edge.faults("INDEX ahead of a FIRST FAULT", Edge::busy, x -> x.down(0, 0, 1, 37), 3);
    }

    // ---- promise 2: the text

    private static int[] codes(String text) {
        int[] all = new int[text.length()];
        for (int i = 0; i < all.length; i++) all[i] = text.charAt(i);
        return all;
    }

    /** A text that is not taken: its FIRST FAULT, and that there is no down by it. */
    private static void broken(String text, int place) {
        BarrowNights x = new BarrowNights();
        Due.makeFault(x);
        Due.is("down by " + text, Due.tellDown(x, text), -100 - place);
        Due.is("fault() of a FIRST FAULT", x.fault(), 0);
        Due.is("no BARROWS by " + text, x.many(0), 0);
        Due.is("no WALKERS by " + text, x.many(1), 0);
    }

    /** "1 to 5 BARROWS", "1 to 5 WALKERS" */
    private static void countsOfBarrowsAndWalkers() {
        for (int barrows = 1; barrows <= 5; barrows++) {
            for (int walkers = 1; walkers <= 5; walkers++) {
                BarrowNights x = new BarrowNights();
                Due.is("down", Due.tellDown(x, "d" + ";r111".repeat(barrows) + ",111".repeat(walkers)), barrows);
                Due.is("BARROWS", x.many(0), barrows);
                Due.is("WALKERS", x.many(1), walkers);
                Due.is("fault()", x.fault(), 0);
            }
        }
    }

    private static void noBarrow() {
        broken("d", 1);
        broken("d,", 1);
        broken("d,111", 1);
    }

    private static void noWalker() {
        for (int barrows = 1; barrows <= 5; barrows++) broken("d" + ";l432".repeat(barrows), 1 + 5 * barrows);
    }

    /** "the ; of a sixth BARROW" */
    private static void sixthBarrow() {
        broken("d;r111;r111;r111;r111;r111;", 26);
        broken("d;r111;r111;r111;r111;r111;r111", 26);
        broken("d;r111;r111;r111;r111;r111;r111,111", 26);
    }

    /** "the , of a sixth WALKER" */
    private static void sixthWalker() {
        for (int barrows = 1; barrows <= 5; barrows++) {
            String five = "d" + ";g432".repeat(barrows) + ",111".repeat(5);
            broken(five + ",", 21 + 5 * barrows);
            broken(five + ",111", 21 + 5 * barrows);
            broken(five + "1", 21 + 5 * barrows);
        }
    }

    /** "of one behind a WALKER" */
    private static void barrowBehindWalker() {
        for (int walkers = 1; walkers <= 5; walkers++) {
            String text = "d;r111" + ",111".repeat(walkers);
            broken(text + ";", text.length());
            broken(text + ";r111", text.length());
            broken(text + ";r111,111", text.length());
        }
    }

    /** "the first code with which no TEXT goes on": in a short text each place is given each code of a byte. */
    private static void eachCodeAtEachPlace() {
        String text = "d;r111,111";
        String[] goesOn = {"d", ";", "rlg", "1234", DIGITS, DIGITS, ",;", DIGITS, DIGITS, "123456789"};
        for (int p = 0; p < text.length(); p++) {
            BarrowNights low = new BarrowNights();
            BarrowNights high = new BarrowNights();
            Due.row(low, 0, 0, codes(text));
            Due.row(high, 0, 0, codes(text));
            for (int code = -128; code < 128; code++) {
                BarrowNights x = code < 0 ? low : high;
                x.put(0, p, code);
                boolean fits = code > 0 && goesOn[p].indexOf(code) >= 0;
                // A second BARROW begins where the WALKER's digits stand.
                int want = !fits ? -100 - p : p == 6 && code == ';' ? -107 : 1;
                Due.is("down with code " + code + " at " + p, x.down(0, 0, 0, 10), want);
            }
        }
    }

    /** "a digit 0 .. 9 (PENCE)" and the like, from the least to the greatest */
    private static void eachDigitIsItsNumber() {
        for (int n = 0; n <= 9; n++) {
            int beds = Math.max(1, Math.min(n, 4));
            int reach = Math.max(1, n);
            BarrowNights x = Due.on("d;r" + beds + n + (9 - n) + "," + n + (9 - n) + reach);
            int[] barrow = {0, beds, n, 9 - n};
            int[] walker = {n, 9 - n, reach};
            for (int what = 0; what < 4; what++) Due.is("ofBarrow, what " + what + ", by " + n, x.ofBarrow(0, what), barrow[what]);
            for (int what = 0; what < 3; what++) Due.is("ofWalker, what " + what + ", by " + n, x.ofWalker(0, what), walker[what]);
        }
    }

    /** "how many codes there are, if it just ends too soon" */
    private static void endsTooSoon() {
        BarrowNights x = new BarrowNights();
        Due.row(x, 0, 2, codes(LONGEST));
        for (int n = 0; n <= 46; n++) {
            boolean whole = n >= 30 && (n - 26) % 4 == 0;
            Due.is("the first " + n + " codes", x.down(0, 2, 0, n), whole ? 5 : -100 - n);
            Due.is("WALKERS by them", x.many(1), n < 30 ? 0 : (n - 26) / 4);
        }
    }

    private static void firstOfSeveralFaults() {
        broken("x;x", 0);
        broken("d;x0", 2);
        broken("d;r0x", 3);
        broken("d;r123,4x0;", 8);
        broken("d;r123;g999,111", 8);
        broken("d;r123,450,", 9);
    }

    private static void codesAreNotCut() {
        String text = "d;r111,111";
        for (int p = 0; p < text.length(); p++) {
            for (int lane = 1; lane <= 2; lane++) {
                BarrowNights x = new BarrowNights();
                Due.row(x, 0, lane, codes(text));
                for (int more : lane == 1 ? new int[] {256, -256} : new int[] {256, -256, 65536, 1 << 31}) {
                    x.put(0, p, text.charAt(p) + more);
                    Due.is("a code and " + more + " at " + p, x.down(0, lane, 0, 10), -100 - p);
                }
            }
        }
    }

    private static void textFromAPlaceOn() {
        BarrowNights x = new BarrowNights();
        Due.row(x, 2, 1, codes("d;r111,111,222d;l222,333"));
        Due.is("from 0 on", x.down(2, 1, 0, 10), 1);
        Due.is("MEANS", x.ofWalker(0, 0), 1);
        Due.is("one WALKER more", x.down(2, 1, 0, 14), 1);
        Due.is("WALKERS", x.many(1), 2);
        Due.is("from 14 on", x.down(2, 1, 14, 10), 1);
        Due.is("MEANS", x.ofWalker(0, 0), 3);
        Due.is("places are told from i on", x.down(2, 1, 13, 11), -100);
        Due.is("places are told from i on", x.down(2, 1, 14, 9), -109);
        Due.is("places are told from i on", x.down(2, 1, 0, 24), -114);
    }

    /** Refusals "change nothing", and neither does a FIRST FAULT. */
    private static void brokenTextChangesNothing() {
        for (int n = 1; n < 37; n++) {
            int cells = n;
            boolean whole = n >= 25 && (n - 21) % 4 == 0;
            if (!whole) Edge.still("down of " + n + " cells", Edge::busy, x -> x.down(0, 0, 0, cells), -100 - n, 0);
        }
    }

    /** "nobody lodges, it is NIGHT 0, nobody is COLD, no READINGS": but for TRACE all is as of an object without a past. */
    private static void textMakesAllAnew() {
        BarrowNights x = Edge.busy();
        Due.is("dearer", x.charge(0, 9), 2);
        Due.is("richer", x.earn(3, 99), 0);
        Due.is("lodges at another PLACE", x.lodge(3, 1), 2);
        Due.is("another night", x.night(1), 0);
        Due.is("the text again", x.down(0, 0, 0, 37), 4);
        BarrowNights y = Due.on(Due.FOUR);
        Due.row(y, 1, 1, 300, -5, 7);
        Due.row(y, 2, 2, 70000, 1, 2, 3, 4, -70000);
        Due.is("as much of a trace", y.tell(0), 1);
        Edge.same("a text that is taken", x, y);
        Due.is("NIGHT 0", x.many(2), 0);
        Due.is("nobody lodges", x.many(3), 0);
        Due.is("no READINGS", x.many(4), 0);
        for (int w = 0; w < 4; w++) Due.is("nobody is COLD", x.ofWalker(w, 4), 0);
    }

    /** "a ROUND one BEDS; a LONG one twice as many; a RING 1 more than a ROUND one" */
    private static void holds() {
        for (int beds = 1; beds <= 4; beds++) {
            Due.is("a ROUND one HOLDS", Due.on("d;r" + beds + "00,001").ofBarrow(0, 4), beds);
            Due.is("a LONG one HOLDS", Due.on("d;l" + beds + "00,001").ofBarrow(0, 4), 2 * beds);
            Due.is("a RING HOLDS", Due.on("d;g" + beds + "00,001").ofBarrow(0, 4), beds + 1);
        }
    }

    // ---- promises 3 to 6

    private static void ofBarrowUnknown() {
        for (int b : Edge.beyond(3)) Edge.still("ofBarrow of " + b, Edge::busy, x -> x.ofBarrow(b, 0), -1);
        for (int b : Edge.beyond(3)) Edge.still("UNKNOWN ahead of OUTSIDE", Edge::busy, x -> x.ofBarrow(b, 6), -1);
        for (int many = 1; many <= 5; many++) {
            BarrowNights x = Due.on("d" + ";r111".repeat(many) + ",111");
            Due.is("the last BARROW of " + many, x.ofBarrow(many - 1, 1), 1);
            Due.is("no further one", x.ofBarrow(many, 1), -1);
        }
    }

    private static void ofBarrowOutside() {
        for (int what : Edge.beyond(5)) Edge.still("ofBarrow, what " + what, Edge::busy, x -> x.ofBarrow(0, what), -2);
        int[] last = {0, 1, 9, 0, 1, 0};
        for (int what = 0; what <= 5; what++) {
            int asked = what;
            Edge.still("ofBarrow, what " + what, Edge::busy, x -> x.ofBarrow(3, asked), last[what]);
        }
    }

    /** "its lodgers, as a set": none, one, all of them */
    private static void ofBarrowLodgers() {
        BarrowNights x = Due.on("d;l400;l400,001,001,001,001,001");
        Due.is("none", x.ofBarrow(1, 5), 0);
        Due.is("lodge", x.lodge(4, 1), 1);
        Due.is("the last", x.ofBarrow(1, 5), 16);
        for (int w = 0; w < 4; w++) Due.is("lodge", x.lodge(w, 1), w + 2);
        Due.is("all", x.ofBarrow(1, 5), 31);
        Due.is("none in the other", x.ofBarrow(0, 5), 0);
    }

    private static void ofWalkerUnknown() {
        for (int w : Edge.beyond(3)) Edge.still("ofWalker of " + w, Edge::busy, x -> x.ofWalker(w, 0), -1);
        for (int w : Edge.beyond(3)) Edge.still("UNKNOWN ahead of OUTSIDE", Edge::busy, x -> x.ofWalker(w, 6), -1);
        for (int many = 1; many <= 5; many++) {
            BarrowNights x = Due.on("d;r111" + ",111".repeat(many));
            Due.is("the last WALKER of " + many, x.ofWalker(many - 1, 1), 1);
            Due.is("no further one", x.ofWalker(many, 1), -1);
        }
    }

    private static void ofWalkerOutside() {
        for (int what : Edge.beyond(5)) Edge.still("ofWalker, what " + what, Edge::busy, x -> x.ofWalker(0, what), -2);
        int[] first = {3, 6, 3, 1, 0, 11};
        int[] last = {0, 2, 5, -9, 2, -9};
        for (int what = 0; what <= 5; what++) {
            int asked = what;
            Edge.still("ofWalker 0, what " + what, Edge::busy, x -> x.ofWalker(0, asked), first[what]);
            Edge.still("ofWalker 3, what " + what, Edge::busy, x -> x.ofWalker(3, asked), last[what]);
        }
    }

    /** "NONE: it does not lodge": never, no longer, PUT OUT */
    private static void ofWalkerNone() {
        BarrowNights x = Due.on("d;l210,101,101,101");
        Due.is("never lodged: BARROW", x.ofWalker(2, 3), -9);
        Due.is("never lodged: DREAM", x.ofWalker(2, 5), -9);
        Due.is("lodge", x.lodge(0, 0), 1);
        Due.is("lodge", x.lodge(1, 0), 2);
        Due.is("leave", x.leave(0), 0);
        Due.is("has left: BARROW", x.ofWalker(0, 3), -9);
        Due.is("has left: DREAM", x.ofWalker(0, 5), -9);
        Due.is("two nights", x.night(2), 1);
        Due.is("PUT OUT: BARROW", x.ofWalker(1, 3), -9);
        Due.is("PUT OUT: DREAM", x.ofWalker(1, 5), -9);
    }

    /** "of those in the same BARROW with lesser numbers the number of the greatest; 10 and the number of the BARROW" */
    private static void ofWalkerDream() {
        BarrowNights x = Due.on("d;l400;l400;l400;l400;l400,009,009,009,009,009");
        for (int b = 0; b < 5; b++) {
            Due.is("lodge", x.lodge(4, b), 1);
            Due.is("alone: the landlord's", x.ofWalker(4, 5), 10 + b);
            Due.is("leave", x.leave(4), b);
        }
        for (int w = 4; w >= 0; w--) Due.is("lodge", x.lodge(w, 4), 5 - w);
        Due.is("the least has the landlord's", x.ofWalker(0, 5), 14);
        for (int w = 1; w < 5; w++) Due.is("of the one with the next lesser number", x.ofWalker(w, 5), w - 1);
        Due.is("leave", x.leave(2), 4);
        Due.is("of the greatest that is left", x.ofWalker(3, 5), 1);
        Due.is("lodge elsewhere", x.lodge(2, 0), 1);
        Due.is("of those in the same BARROW", x.ofWalker(3, 5), 1);
        Due.is("of those in the same BARROW", x.ofWalker(2, 5), 10);
    }

    private static void charge() {
        for (int v : new int[] {0, 9}) {
            BarrowNights x = Edge.busy();
            Due.makeFault(x);
            Due.is("charge " + v, x.charge(3, v), 9);
            Due.is("PENCE", x.ofBarrow(3, 2), v);
            Due.is("charge again", x.charge(3, 5), v);
            Due.is("fault() stays", x.fault(), 4);
        }
        BarrowNights x = Due.on("d;r111;r111;r111;r111;r111,111");
        Due.is("of the last of five", x.charge(4, 0), 1);
        for (int b = 0; b < 5; b++) Due.is("PENCE of " + b, x.ofBarrow(b, 2), b == 4 ? 0 : 1);
    }

    private static void chargeRefusals() {
        for (int b : Edge.beyond(3)) Edge.still("charge of " + b, Edge::busy, x -> x.charge(b, 5), -1);
        for (int v : Edge.beyond(9)) Edge.still("charge " + v, Edge::busy, x -> x.charge(0, v), -2);
        Edge.still("UNKNOWN ahead of OUTSIDE", Edge::busy, x -> x.charge(4, 10), -1);
        Edge.still("UNKNOWN ahead of OUTSIDE", Edge::busy, x -> x.charge(-1, -1), -1);
    }

    private static void earn() {
        for (int v : new int[] {0, 99}) {
            BarrowNights x = Edge.busy();
            Due.makeFault(x);
            Due.is("earn " + v, x.earn(2, v), 8);
            Due.is("MEANS", x.ofWalker(2, 0), v);
            Due.is("earn again", x.earn(2, 5), v);
            Due.is("fault() stays", x.fault(), 4);
        }
        BarrowNights x = Due.on("d;r111,111,111,111,111,111");
        Due.is("of the last of five", x.earn(4, 0), 1);
        for (int w = 0; w < 5; w++) Due.is("MEANS of " + w, x.ofWalker(w, 0), w == 4 ? 0 : 1);
    }

    private static void earnRefusals() {
        for (int w : Edge.beyond(3)) Edge.still("earn of " + w, Edge::busy, x -> x.earn(w, 5), -1);
        for (int v : Edge.beyond(99)) Edge.still("earn " + v, Edge::busy, x -> x.earn(0, v), -2);
        Edge.still("UNKNOWN ahead of OUTSIDE", Edge::busy, x -> x.earn(4, 100), -1);
        Edge.still("UNKNOWN ahead of OUTSIDE", Edge::busy, x -> x.earn(-1, -1), -1);
    }
}

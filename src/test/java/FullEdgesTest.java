/** The edges of promises 15 to 19: a test for each sentence that names one. */
public final class FullEdgesTest {
    private static final char[] LETTERS = {'r', 'l', 'g'};

    public static void main(String[] args) {
        readingUnknown();
        readingOutsideLodgers();
        readingOutsideFull();
        readingsAreEightAtMost();
        readingOrder();
        readingsChangeNothingElse();
        back();
        backOutside();
        backTakesTheLast();
        roomsUnknown();
        roomsWithoutReadings();
        roomsAtTheEdge();
        roomsOfNone();
        roomsByEightReadings();
        kindsUnknown();
        kindsWithoutReadings();
        kindsAtTheEdge();
        kindsOfNone();
        othersStayWhatTheyAre();
        oddsUnknown();
        oddsOutside();
        oddsOfAsManyAsItHolds();
        oddsOfNone();
        oddsInLeastTerms();
        oddsWhateverIsNow();
        Due.end();
    }

    private static int holds(int kind, int beds) {
        return kind == 0 ? beds : kind == 1 ? 2 * beds : beds + 1;
    }

    // ---- promise 15

    private static void readingUnknown() {
        for (int b : Edge.beyond(3)) Edge.still("reading of " + b, Edge::busy, x -> x.reading(b, 0, 0), -1);
        Edge.still("no DOWN", BarrowNights::new, x -> x.reading(0, 0, 0), -1);
        BarrowNights x = Due.on("d;r100;r100;r100;r100;r100,001");
        for (int b = 0; b < 5; b++) Due.is("reading of " + b, x.reading(b, 0, 0), b);
        Due.is("no sixth", x.reading(5, 0, 0), -1);
    }

    /** "lodgers (0 .. 9)" */
    private static void readingOutsideLodgers() {
        for (int lodgers : Edge.beyond(9)) Edge.still("reading with " + lodgers, Edge::busy, x -> x.reading(0, lodgers, 0), -2);
        for (int lodgers : new int[] {0, 9}) Due.is("reading with " + lodgers, Edge.busy().reading(0, lodgers, 0), 2);
    }

    /** "full (0, 1)" */
    private static void readingOutsideFull() {
        for (int full : Edge.beyond(1)) Edge.still("reading, full " + full, Edge::busy, x -> x.reading(0, 0, full), -2);
        for (int full = 0; full <= 1; full++) Due.is("reading, full " + full, Edge.busy().reading(0, 0, full), 2);
    }

    private static BarrowNights eight() {
        BarrowNights x = Edge.busy();
        for (int r = 2; r < 8; r++) Due.is("reading " + r, x.reading(r % 4, 9, 1), r);
        return x;
    }

    /** "READINGS, 8 at most, numbered by how many there are" */
    private static void readingsAreEightAtMost() {
        Due.is("eight", eight().many(4), 8);
        Edge.still("a ninth", FullEdgesTest::eight, x -> x.reading(0, 9, 1), -4);
        Edge.still("a ninth, another", FullEdgesTest::eight, x -> x.reading(3, 0, 0), -4);
        BarrowNights x = eight();
        Due.is("one back", x.back(1), 7);
        Due.is("an eighth again", x.reading(0, 9, 1), 7);
        Due.is("a ninth", x.reading(0, 9, 1), -4);
        Due.is("all back", x.back(8), 0);
        Due.is("a first again", x.reading(0, 9, 1), 0);
        BarrowNights y = eight();
        Due.is("a new down", Due.tellDown(y, "d;r100,001"), 1);
        Due.is("has room", y.reading(0, 1, 1), 0);
    }

    private static void readingOrder() {
        Edge.still("UNKNOWN ahead of OUTSIDE: lodgers", Edge::busy, x -> x.reading(4, 10, 0), -1);
        Edge.still("UNKNOWN ahead of OUTSIDE: full", Edge::busy, x -> x.reading(-1, 0, 2), -1);
        Edge.still("UNKNOWN ahead of FULL", FullEdgesTest::eight, x -> x.reading(4, 0, 0), -1);
        Edge.still("OUTSIDE: lodgers ahead of FULL", FullEdgesTest::eight, x -> x.reading(0, 10, 0), -2);
        Edge.still("OUTSIDE: lodgers ahead of FULL", FullEdgesTest::eight, x -> x.reading(0, -1, 0), -2);
        Edge.still("OUTSIDE: full ahead of FULL", FullEdgesTest::eight, x -> x.reading(0, 0, 2), -2);
        Edge.still("OUTSIDE: full ahead of FULL", FullEdgesTest::eight, x -> x.reading(0, 0, -1), -2);
    }

    private static void readingsChangeNothingElse() {
        BarrowNights x = Edge.busy();
        Due.makeFault(x);
        Due.is("a reading that is not so", x.reading(0, 9, 0), 2);
        Due.is("fault() stays", x.fault(), 4);
        Due.is("one more", x.many(4), 3);
        Due.is("HOLDS stays", x.ofBarrow(0, 4), 1);
        Due.is("taken back", x.back(1), 2);
        Due.is("fault() stays", x.fault(), 4);
        Edge.same("a reading that is taken back", x, Edge.busy());
    }

    // ---- promise 16

    private static void back() {
        for (int k = 0; k <= 8; k++) {
            BarrowNights x = eight();
            Due.is("the last " + k, x.back(k), 8 - k);
            Due.is("how many are left", x.many(4), 8 - k);
        }
        Due.is("none of none", new BarrowNights().back(0), 0);
        Due.is("none of none", Due.on("d;r100,001").back(0), 0);
    }

    /** "0 .. as many as there are" */
    private static void backOutside() {
        for (int k : Edge.beyond(2)) Edge.still("back(" + k + ") of 2", Edge::busy, x -> x.back(k), -2);
        for (int k : Edge.beyond(8)) Edge.still("back(" + k + ") of 8", FullEdgesTest::eight, x -> x.back(k), -2);
        for (int k : Edge.beyond(0)) Edge.still("back(" + k + ") of none", BarrowNights::new, x -> x.back(k), -2);
        Edge.still("back(0)", Edge::busy, x -> x.back(0), 2);
    }

    private static void backTakesTheLast() {
        BarrowNights x = Due.on("d;r200;r200,001");
        Due.is("full with 2", x.reading(0, 2, 1), 0);
        Due.is("not with 0", x.reading(0, 0, 0), 1);
        Due.is("not with 1", x.reading(0, 1, 0), 2);
        Due.is("2 alone", x.rooms(0), 4);
        Due.is("the last one back", x.back(1), 2);
        Due.is("1 or 2", x.rooms(0), 6);
        Due.is("the first one is the last to go", x.back(1), 1);
        Due.is("1 or 2", x.rooms(0), 6);
        Due.is("all back", x.back(1), 0);
        Due.is("any", x.rooms(0), 30);
    }

    // ---- promise 17

    private static void roomsUnknown() {
        for (int b : Edge.beyond(3)) Edge.still("rooms of " + b, Edge::busy, x -> x.rooms(b), -1);
        // LONG: not full with 3; RING: full with 3; nothing is told of the ROUND ones.
        int[] want = {30, 28, 6, 30};
        for (int barrow = 0; barrow < 4; barrow++) {
            int b = barrow;
            Edge.still("rooms of " + b, Edge::busy, x -> x.rooms(b), want[b]);
        }
        Edge.still("no DOWN", BarrowNights::new, x -> x.rooms(0), -1);
    }

    /** "BEDS 1 .. 4" */
    private static void roomsWithoutReadings() {
        for (char letter : LETTERS) {
            for (int beds = 1; beds <= 4; beds++) Due.is("any BEDS", Due.on("d;" + letter + beds + "00,001").rooms(0), 30);
        }
    }

    /** "it HOLDS no more than so many": of each kind with each count of BEDS, as many lodgers as it HOLDS, and 1 fewer */
    private static void roomsAtTheEdge() {
        for (int kind = 0; kind < 3; kind++) {
            for (int beds = 1; beds <= 4; beds++) {
                int up = 0;
                for (int n = 1; n <= beds; n++) up |= 1 << n;
                roomsBy(LETTERS[kind], holds(kind, beds), 1, up);
                roomsBy(LETTERS[kind], holds(kind, beds), 0, 30 - up);
                roomsBy(LETTERS[kind], holds(kind, beds) - 1, 1, up - (1 << beds));
                roomsBy(LETTERS[kind], holds(kind, beds) - 1, 0, 30 - up + (1 << beds));
            }
            roomsBy(LETTERS[kind], 0, 1, 0);
            roomsBy(LETTERS[kind], 0, 0, 30);
            roomsBy(LETTERS[kind], 9, 1, 30);
            roomsBy(LETTERS[kind], 9, 0, 0);
        }
    }

    private static void roomsBy(char letter, int lodgers, int full, int want) {
        BarrowNights x = Due.on("d;" + letter + "300,001");
        Due.is("reading", x.reading(0, lodgers, full), 0);
        Due.is("rooms of " + letter + " with " + lodgers + ", full " + full, x.rooms(0), want);
    }

    /** Readings that can't all be so leave no BEDS. */
    private static void roomsOfNone() {
        BarrowNights x = Due.on("d;r200,001");
        Due.is("full with 2", x.reading(0, 2, 1), 0);
        Due.is("not with 2", x.reading(0, 2, 0), 1);
        Due.is("none", x.rooms(0), 0);
        BarrowNights lng = Due.on("d;l200,001");
        Due.is("full with 3", lng.reading(0, 3, 1), 0);
        Due.is("not with 2", lng.reading(0, 2, 0), 1);
        Due.is("a LONG one HOLDS no 3", lng.rooms(0), 0);
    }

    /** "by which all READINGS are so": the first of eight and the last of eight, too */
    private static void roomsByEightReadings() {
        for (int place = 0; place < 8; place++) {
            BarrowNights x = Due.on("d;r200;r200,001");
            for (int r = 0; r < 8; r++) Due.is("reading", x.reading(0, r == place ? 2 : 9, 1), r);
            Due.is("by reading " + place, x.rooms(0), 6);
            Due.is("kinds by reading " + place, x.kinds(0), 1);
        }
    }

    // ---- promise 18

    private static void kindsUnknown() {
        for (int b : Edge.beyond(3)) Edge.still("kinds of " + b, Edge::busy, x -> x.kinds(b), -1);
        int[] want = {7, 2, 5, 7};
        for (int barrow = 0; barrow < 4; barrow++) {
            int b = barrow;
            Edge.still("kinds of " + b, Edge::busy, x -> x.kinds(b), want[b]);
        }
        Edge.still("no DOWN", BarrowNights::new, x -> x.kinds(0), -1);
    }

    /** "KINDS of a BARROW: 0 .. 2" */
    private static void kindsWithoutReadings() {
        for (char letter : LETTERS) {
            for (int beds = 1; beds <= 4; beds++) Due.is("any kind", Due.on("d;" + letter + beds + "00,001").kinds(0), 7);
        }
    }

    private static void kindsAtTheEdge() {
        for (char letter : LETTERS) {
            for (int beds = 1; beds <= 4; beds++) {
                for (int lodgers = 0; lodgers <= 9; lodgers++) {
                    BarrowNights x = Due.on("d;" + letter + beds + "00,001");
                    int up = 0;
                    for (int kind = 0; kind < 3; kind++) up += holds(kind, beds) <= lodgers ? 1 << kind : 0;
                    Due.is("full", x.reading(0, lodgers, 1), 0);
                    Due.is("kinds with " + beds + " BEDS, full with " + lodgers, x.kinds(0), up);
                    Due.is("back", x.back(1), 0);
                    Due.is("not full", x.reading(0, lodgers, 0), 0);
                    Due.is("kinds with " + beds + " BEDS, not with " + lodgers, x.kinds(0), 7 - up);
                }
            }
        }
    }

    private static void kindsOfNone() {
        BarrowNights x = Due.on("d;r300,001");
        Due.is("full with 5", x.reading(0, 5, 1), 0);
        Due.is("not with 4", x.reading(0, 4, 0), 1);
        Due.is("with 3 BEDS none HOLDS 5", x.kinds(0), 0);
        Due.is("a ROUND one with 5 BEDS there is not", x.rooms(0), 0);
    }

    /** "in place of what it is alone" */
    private static void othersStayWhatTheyAre() {
        BarrowNights x = Due.on("d;r200;l200,001");
        Due.is("so of 0 as it is", x.reading(0, 2, 1), 0);
        Due.is("rooms of 1", x.rooms(1), 30);
        Due.is("kinds of 1", x.kinds(1), 7);
        Due.is("so of 0 with 1 bed", x.reading(0, 1, 1), 1);
        Due.is("rooms of 0", x.rooms(0), 2);
        Due.is("rooms of 1", x.rooms(1), 0);
        Due.is("kinds of 0", x.kinds(0), 0);
        Due.is("kinds of 1", x.kinds(1), 0);
    }

    // ---- promise 19

    private static void oddsUnknown() {
        for (int b : Edge.beyond(3)) {
            Edge.still("odds of " + b, Edge::busy, x -> x.odds(b, 0), Edge.LOST);
            Edge.still("odds of " + b + ", lower", Edge::busy, x -> x.odds(b, 1), Edge.LOST);
            Edge.still("UNKNOWN and OUTSIDE", Edge::busy, x -> x.odds(b, 2), Edge.LOST);
        }
        Edge.still("no DOWN", BarrowNights::new, x -> x.odds(0, 0), Edge.LOST);
        Edge.still("no DOWN, lower", BarrowNights::new, x -> x.odds(0, 1), Edge.LOST);
    }

    /** "which 0 the upper, 1 the lower number" */
    private static void oddsOutside() {
        for (int which : Edge.beyond(1)) Edge.still("odds, which " + which, Edge::busy, x -> x.odds(0, which), Edge.LOST);
        long[][] want = {{369, 625}, {1, 625}, {17, 625}, {369, 625}};
        for (int barrow = 0; barrow < 4; barrow++) {
            int b = barrow;
            Edge.still("odds of " + b + ", upper", Edge::busy, x -> x.odds(b, 0), want[b][0]);
            Edge.still("odds of " + b + ", lower", Edge::busy, x -> x.odds(b, 1), want[b][1]);
        }
    }

    private static void odds(String text, long upper, long lower) {
        BarrowNights x = Due.on(text);
        Due.is("upper of " + text, x.odds(0, 0), upper);
        Due.is("lower of " + text, x.odds(0, 1), lower);
    }

    /** "as many as it HOLDS, or more": all WALKERS at once, where it HOLDS as many */
    private static void oddsOfAsManyAsItHolds() {
        odds("d;r100,001", 1, 2);
        odds("d;r200,001,001", 1, 4);
        odds("d;g200,001,001,001", 1, 8);
        odds("d;l200,001,001,001,001", 1, 16);
        odds("d;g400,001,001,001,001,001", 1, 32);
        odds("d;r400,001,001,001,001,001", 3, 16);
        odds("d;r100,001,001,001,001,001", 31, 32);
        odds("d;r100;r100;r100;r100;r100,001,001,001,001,001", 4651, 7776);
    }

    /** Fewer WALKERS than it HOLDS: no share, told as 0 and 1. */
    private static void oddsOfNone() {
        odds("d;r200,001", 0, 1);
        odds("d;g100,001", 0, 1);
        odds("d;l100,001", 0, 1);
        odds("d;r400,001,001,001", 0, 1);
        odds("d;g400,001,001,001,001", 0, 1);
        odds("d;l300,001,001,001,001,001", 0, 1);
        odds("d;l400;r100;r100;r100;r100,001,001,001,001,001", 0, 1);
    }

    /** "in least terms" */
    private static void oddsInLeastTerms() {
        odds("d;r200,001,001,001", 1, 2);
        odds("d;l100,001,001,001", 1, 2);
        odds("d;r300,001,001,001,001,001", 1, 2);
        odds("d;r200;r100,001,001,001", 7, 27);
        odds("d;r200;r100;r100,001,001,001", 5, 32);
        odds("d;r400;r100;r100;r100;r100,001,001,001,001,001", 13, 3888);
    }

    /** "if each WALKER, by itself, would lie in any BARROW or in none, all alike": REACH, PENCE, lodgers aside */
    private static void oddsWhateverIsNow() {
        BarrowNights x = Due.on("d;r109;r190,001,001");
        Due.is("upper", x.odds(0, 0), 5);
        Due.is("lower", x.odds(0, 1), 9);
        Due.is("upper of the dear one", x.odds(1, 0), 5);
        Due.is("charge", x.charge(1, 0), 9);
        Due.is("lodge", x.lodge(0, 1), 1);
        Due.is("upper of the full one", x.odds(1, 0), 5);
        Due.is("lower of the full one", x.odds(1, 1), 9);
    }
}

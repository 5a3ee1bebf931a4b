/** What holds the head of the document's Terms: the refusals, the faults, and how sets and shares are told. DocumentTest quotes it. */
final class HeadHolds {
    private static final long LOST = Long.MIN_VALUE;
    private static final int NULL = 1, CAST = 2, INDEX = 3, SIZE = 4;

    private HeadHolds() {
    }

    static void lastCall() {
        BarrowNights x = Due.on("d;r100,001");
        int want = 0;
        for (int call = 13; call <= 511; call++) {
            Due.is("call " + call, x.tell(0), 1);
            want = 31 * want + 1;
        }
        Due.is("call 512", x.trace(), want);
    }

    static void refusalsInOrder() {
        BarrowNights x = new BarrowNights();
        Due.is("night: OUTSIDE ahead of STATE", x.night(0), -2);
        Due.is("housed: OUTSIDE ahead of STATE", x.housed(5), -2);
        Due.is("lain: UNKNOWN ahead of OUTSIDE, STATE", x.lain(4, 3, 0, 5), -1);
        Due.is("lain: OUTSIDE ahead of STATE", x.lain(0, 0, 0, 5), -2);
        Due.is("lain: STATE ahead of NULL", x.lain(0, 0, 0, 0), -3);
        Due.is("season: UNKNOWN ahead of OUTSIDE", x.season(4, 3, 0, 21, 4), -1);
        Due.is("season: OUTSIDE ahead of NULL", x.season(0, 0, 0, 21, 0), -2);
        Due.is("season: NULL ahead of STATE", x.season(0, 0, 0, 0, 0), -11);
        BarrowNights y = Edge.busy();
        Due.is("down: UNKNOWN ahead of OUTSIDE", y.down(4, 3, 0, -1), -1);
        Due.is("down: OUTSIDE ahead of SIZE", y.down(0, 3, 0, -1), -2);
        Due.is("ofBarrow: UNKNOWN ahead of OUTSIDE", y.ofBarrow(4, 6), -1);
        Due.is("ofWalker: UNKNOWN ahead of OUTSIDE", y.ofWalker(4, 6), -1);
        Due.is("charge: UNKNOWN ahead of OUTSIDE", y.charge(4, 10), -1);
        Due.is("earn: UNKNOWN ahead of OUTSIDE", y.earn(4, 100), -1);
        Due.is("lodge: UNKNOWN ahead of STATE", y.lodge(0, 4), -1);
        Due.is("way: UNKNOWN ahead of OUTSIDE", y.way(4, 10), -1);
        Due.is("as: UNKNOWN ahead of OUTSIDE", y.as(4, 3), -1);
        Due.is("as: OUTSIDE ahead of CAST", y.as(0, 3), -2);
        Due.is("sheet: UNKNOWN ahead of OUTSIDE", y.sheet(4, 3, 61), -1);
        Due.is("sheet: OUTSIDE ahead of SIZE", y.sheet(0, 3, -1), -2);
        BarrowNights z = full();
        Due.is("reading: UNKNOWN ahead of OUTSIDE, FULL", z.reading(1, 10, 2), -1);
        Due.is("reading: OUTSIDE ahead of FULL", z.reading(0, 10, 0), -2);
        Due.is("reading: FULL", z.reading(0, 9, 0), -4);
    }

    /** One BARROW with as many READINGS as there may be. */
    private static BarrowNights full() {
        BarrowNights x = Due.on("d;r100,001");
        for (int r = 0; r < 8; r++) Due.is("reading", x.reading(0, 9, 1), r);
        return x;
    }

    static void refusalsAreAsTold() {
        BarrowNights x = Edge.busy();
        Due.is("UNKNOWN is -1", BarrowNights.UNKNOWN, -1);
        for (int none : new int[] {-1, 4}) {
            Due.is("no such BARROW", x.ofBarrow(none, 0), -1);
            Due.is("no such WALKER", x.ofWalker(none, 0), -1);
            Due.is("no such SHEET", x.lose(none), -1);
        }
        Due.is("OUTSIDE is -2", BarrowNights.OUTSIDE, -2);
        Due.is("another number is not as told", x.charge(0, 10), -2);
        Due.is("STATE is -3", BarrowNights.STATE, -3);
        Due.is("as told: it does not lodge", x.leave(2), -3);
        Due.is("FULL is -4", BarrowNights.FULL, -4);
        Due.is("a ninth READING", full().reading(0, 9, 1), -4);
    }

    static void refusalsChangeNothing() {
        refused("ofBarrow", x -> x.ofBarrow(4, 0), -1);
        refused("ofBarrow", x -> x.ofBarrow(0, 6), -2);
        refused("ofWalker", x -> x.ofWalker(4, 0), -1);
        refused("ofWalker", x -> x.ofWalker(0, 6), -2);
        refused("charge", x -> x.charge(4, 0), -1);
        refused("charge", x -> x.charge(0, 10), -2);
        refused("earn", x -> x.earn(4, 0), -1);
        refused("earn", x -> x.earn(0, 100), -2);
        refused("lodge", x -> x.lodge(4, 0), -1);
        refused("lodge", x -> x.lodge(2, 4), -1);
        refused("lodge", x -> x.lodge(0, 0), -3);
        refused("lodge", x -> x.lodge(2, 0), -3);
        refused("leave", x -> x.leave(4), -1);
        refused("leave", x -> x.leave(2), -3);
        refused("night", x -> x.night(31), -2);
        refused("housed", x -> x.housed(5), -2);
        refused("ploughed", x -> x.ploughed(4), -1);
        refused("way", x -> x.way(4, 0), -1);
        refused("way", x -> x.way(0, 10), -2);
        refused("reading", x -> x.reading(4, 0, 0), -1);
        refused("reading", x -> x.reading(0, 10, 0), -2);
        Edge.still("reading", HeadHolds::full, x -> x.reading(0, 0, 0), -4);
        refused("back", x -> x.back(3), -2);
        refused("rooms", x -> x.rooms(4), -1);
        refused("kinds", x -> x.kinds(4), -1);
        refused("odds", x -> x.odds(4, 0), LOST);
        refused("odds", x -> x.odds(0, 2), LOST);
        refused("lose", x -> x.lose(4), -1);
        refused("tell", x -> x.tell(4), -1);
        refused("haunt", x -> x.haunt(4), -1);
        refused("many", x -> x.many(5), -2);
        Edge.still("night without a DOWN", BarrowNights::new, x -> x.night(1), -3);
        Edge.still("housed without a DOWN", BarrowNights::new, x -> x.housed(0), -3);
    }

    /** A call that names no FAULT, on the busy down. */
    private static void refused(String call, Edge.Act act, long want) {
        Edge.still(call + " refused", Edge::busy, act, want);
    }

    static void refusalsMakeFaultNone() {
        none("down", x -> x.down(4, 0, 0, 0), -1);
        none("down", x -> x.down(0, 3, 0, 0), -2);
        none("season", x -> x.season(4, 0, 0, 0, 0), -1);
        none("season", x -> x.season(2, 3, 0, 0, 0), -2);
        none("season: its first is no WALKER", x -> x.season(2, 2, 0, 1, 0), -1);
        none("season: its second is nothing told", x -> x.season(2, 2, 4, 1, 0), -2);
        none("lain", x -> x.lain(4, 0, 0, 0), -1);
        none("lain", x -> x.lain(2, 2, 0, 5), -2);
        none("sheet", x -> x.sheet(4, 0, 0), -1);
        none("sheet", x -> x.sheet(0, 3, 0), -2);
        none("put", x -> x.put(4, 0, 0), -1);
        none("cell", x -> x.cell(4, 0, 0), LOST);
        none("cell", x -> x.cell(0, 0, 3), LOST);
        none("copy", x -> x.copy(4, 0, 0, 0, 0), -1);
        none("copy", x -> x.copy(0, 0, 4, 0, 0), -1);
        none("as", x -> x.as(4, 0), -1);
        none("as", x -> x.as(0, 3), -2);
        Edge.still("lain without a DOWN", BarrowNights::new, x -> x.lain(0, 0, 0, 0), -3, 0);
        Edge.still("season without a DOWN", HeadHolds::oneSheet, x -> x.season(1, 0, 0, 0, 0), -3, 0);
    }

    private static BarrowNights oneSheet() {
        BarrowNights x = new BarrowNights();
        Due.is("a sheet", x.sheet(1, 0, 2), 1);
        return x;
    }

    /** A refused call that names FAULTS: fault() is 0 then, all else stays. */
    private static void none(String call, Edge.Act act, long want) {
        Edge.still(call + " refused", Edge::busy, act, want, 0);
    }

    static void nullIsNothing() {
        Edge.faults("down", Edge::busy, x -> x.down(3, 0, 0, 0), NULL);
        Edge.faults("season", Edge::busy, x -> x.season(3, 0, 0, 0, 0), NULL);
        Edge.faults("lain", Edge::busy, x -> x.lain(3, 0, 0, 0), NULL);
        Edge.faults("put", Edge::busy, x -> x.put(3, 0, 0), NULL);
        Edge.faults("copy from it", Edge::busy, x -> x.copy(3, 0, 0, 0, 0), NULL);
        Edge.faults("copy to it", Edge::busy, x -> x.copy(0, 0, 3, 0, 0), NULL);
        Edge.still("cell", Edge::busy, x -> x.cell(3, 0, 0), LOST, NULL);
    }

    static void castIsOfAnotherLaneOrKind() {
        Edge.faults("down", Edge::busy, x -> x.down(0, 1, 0, 37), CAST);
        Edge.faults("season", Edge::busy, x -> x.season(0, 2, 0, 0, 0), CAST);
        Edge.faults("lain", Edge::busy, x -> x.lain(2, 0, 0, 0), CAST);
        Edge.faults("copy", Edge::busy, x -> x.copy(0, 0, 1, 0, 0), CAST);
        Edge.faults("as: a ROUND one is no LONG one", Edge::busy, x -> x.as(0, 1), CAST);
        Edge.still("cell", Edge::busy, x -> x.cell(1, 0, 2), LOST, CAST);
    }

    /** "of cells from i on also where i is not 0 .. how many there are, if none of them is taken, too" */
    static void indexIsBesideTheCells() {
        for (int i : new int[] {-1, 37, Integer.MIN_VALUE, Integer.MAX_VALUE}) {
            Edge.faults("put at " + i, Edge::busy, x -> x.put(0, i, 0), INDEX);
            Edge.still("cell at " + i, Edge::busy, x -> x.cell(0, i, 0), LOST, INDEX);
        }
        for (int i : new int[] {-1, 38, Integer.MIN_VALUE, Integer.MAX_VALUE}) {
            Edge.faults("down of none from " + i, Edge::busy, x -> x.down(0, 0, i, 0), INDEX);
            Edge.faults("season of none from " + i, Edge::busy, x -> x.season(0, 0, i, 0, 0), INDEX);
            Edge.faults("copy of none from " + i, Edge::busy, x -> x.copy(0, i, 0, 0, 0), INDEX);
            Edge.faults("copy of none to " + i, Edge::busy, x -> x.copy(0, 0, 0, i, 0), INDEX);
        }
        for (int i : new int[] {0, 37}) {
            Edge.still("down of none from " + i, Edge::busy, x -> x.down(0, 0, i, 0), -100, 0);
            Edge.still("season of none from " + i, Edge::busy, x -> x.season(0, 0, i, 0, 0), 3, 0);
            Edge.still("copy of none from " + i, Edge::busy, x -> x.copy(0, i, 0, 37 - i, 0), 0, 0);
        }
        Edge.faults("lain of one cell too few", Edge::busy, x -> x.lain(2, 2, 3, -1), INDEX);
    }

    static void sizeIsBelowNone() {
        for (int n : new int[] {-1, Integer.MIN_VALUE}) {
            Edge.faults("sheet", Edge::busy, x -> x.sheet(0, 0, n), SIZE);
            Edge.faults("down", Edge::busy, x -> x.down(0, 0, 0, n), SIZE);
        }
    }

    static void firstThatIsComeTo() {
        Edge.faults("down: CAST, SIZE, INDEX", Edge::busy, x -> x.down(0, 1, -1, -1), CAST);
        Edge.faults("down: NULL, SIZE, INDEX", Edge::busy, x -> x.down(3, 1, -1, -1), NULL);
        Edge.faults("down: SIZE, INDEX", Edge::busy, x -> x.down(0, 0, -1, -1), SIZE);
        Edge.faults("season: CAST, INDEX", Edge::busy, x -> x.season(0, 1, -1, 20, 0), CAST);
        Edge.faults("season: NULL, INDEX", Edge::busy, x -> x.season(3, 1, -1, 20, 0), NULL);
        Edge.faults("lain: CAST, INDEX", Edge::busy, x -> x.lain(0, 1, -1, 0), CAST);
        Edge.faults("lain: NULL, INDEX", Edge::busy, x -> x.lain(3, 1, -1, 0), NULL);
        Edge.faults("put: NULL, INDEX", Edge::busy, x -> x.put(3, -1, 0), NULL);
        Edge.faults("copy: NULL, INDEX", Edge::busy, x -> x.copy(0, -1, 3, 0, 0), NULL);
        Edge.faults("copy: CAST, INDEX", Edge::busy, x -> x.copy(0, -1, 1, 0, 0), CAST);
        Edge.still("cell: CAST, INDEX", Edge::busy, x -> x.cell(0, -1, 1), LOST, CAST);
        Edge.still("cell: NULL, INDEX", Edge::busy, x -> x.cell(3, -1, 1), LOST, NULL);
    }

    static void answersOfFaults() {
        Due.is("LOST", BarrowNights.LOST, Long.MIN_VALUE);
        Edge.still("-10 less NULL", Edge::busy, x -> x.put(3, 0, 0), -11, NULL);
        Edge.still("-10 less CAST", Edge::busy, x -> x.as(0, 1), -12, CAST);
        Edge.still("-10 less INDEX", Edge::busy, x -> x.put(0, 37, 0), -13, INDEX);
        Edge.still("-10 less SIZE", Edge::busy, x -> x.sheet(0, 0, -1), -14, SIZE);
        Edge.still("LOST by INDEX", Edge::busy, x -> x.cell(0, 37, 0), LOST, INDEX);
        Edge.still("LOST by a refusal", Edge::busy, x -> x.cell(4, 0, 0), LOST, 0);
        Edge.still("LOST by a refusal", Edge::busy, x -> x.odds(4, 0), LOST);
    }

    static void none() {
        Due.is("NONE", BarrowNights.NONE, -9);
        BarrowNights x = Due.on("d;r109,001");
        Due.is("it does not lodge", x.ofWalker(0, 3), -9);
        Due.is("it has no DREAM", x.ofWalker(0, 5), -9);
        Due.is("it is not housed", x.housed(0), -9);
        Due.is("there is no way", x.way(0, 5), -9);
    }

    static void sets() {
        BarrowNights x = Due.on("d;l400;r100,001,001,001,001,001");
        Due.is("nobody", x.ofBarrow(0, 5), 0);
        Due.is("lodge", x.lodge(1, 0), 1);
        Due.is("bit 1", x.ofBarrow(0, 5), 2);
        Due.is("lodge", x.lodge(4, 0), 2);
        Due.is("bits 1 and 4", x.ofBarrow(0, 5), 18);
        Due.is("lodge", x.lodge(0, 1), 1);
        Due.is("bit 0", x.ofBarrow(1, 5), 1);
        Due.is("a sheet", x.sheet(1, 0, 0), 1);
        Due.is("bits 0, 1, 4", x.season(1, 0, 0, 0, 0), 19);
        Due.is("BEDS 1 .. 4", x.rooms(0), 30);
        Due.is("kinds 0 .. 2", x.kinds(0), 7);
    }

    static void shares() {
        share("d;r100,001", 1, 2);
        share("d;r100,001,001", 3, 4);
        share("d;r200;r100;r100,001,001,001", 5, 32);
        share("d;r400,001", 0, 1);
    }

    private static void share(String text, long upper, long lower) {
        BarrowNights x = Due.on(text);
        Due.is("the upper number of " + text, x.odds(0, 0), upper);
        Due.is("the lower number of " + text, x.odds(0, 1), lower);
    }
}

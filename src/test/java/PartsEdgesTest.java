/** The edges of promises 25 to 30, and of the 512 calls: a test for each sentence that names one. */
public final class PartsEdgesTest {
    private static final char[] LETTERS = {'r', 'l', 'g'};

    public static void main(String[] args) {
        tellUnknown();
        tellOfEachKind();
        hauntUnknown();
        hauntOfEachKind();
        traceAtFirst();
        traceWraps();
        traceOfRefusedCalls();
        traceStays();
        asUnknown();
        asOutside();
        asCast();
        asOrder();
        faultAheadOfAny();
        faultOfTheLatestThatNamesOne();
        faultOfARefusedCall();
        faultOfACallThatComesToNone();
        faultStays();
        manyOutside();
        manyAtBothEnds();
        theLastCall();
        Due.end();
    }

    private static int traced(int before, int... bodies) {
        int all = before;
        for (int body : bodies) all = 31 * all + body;
        return all;
    }

    // ---- promise 25

    private static void tellUnknown() {
        for (int b : Edge.beyond(3)) Edge.still("tell of " + b, Edge::busy, x -> x.tell(b), -1);
        Edge.still("no DOWN", BarrowNights::new, x -> x.tell(0), -1);
    }

    /** "ROUND (1): BEDS. LONG (2): what ROUND's gives, and 100. RING (3): what LONG's gives, and what ROUND's gives" */
    private static void tellOfEachKind() {
        int[][] bodies = {{1}, {2, 1}, {3, 2, 1, 1}};
        for (int beds = 1; beds <= 4; beds++) {
            int[] want = {beds, beds + 100, beds + 100 + beds};
            for (int kind = 0; kind < 3; kind++) {
                BarrowNights x = Due.on("d;r100;r100;r100;r100;" + LETTERS[kind] + beds + "00,001");
                Due.makeFault(x);
                Due.is("tell of kind " + kind, x.tell(4), want[kind]);
                Due.is("its trace", x.trace(), traced(0, bodies[kind]));
                Due.is("fault() stays", x.fault(), 4);
            }
        }
    }

    // ---- promise 26

    private static void hauntUnknown() {
        for (int b : Edge.beyond(3)) Edge.still("haunt of " + b, Edge::busy, x -> x.haunt(b), -1);
        Edge.still("no DOWN", BarrowNights::new, x -> x.haunt(0), -1);
    }

    /** "by a lent body (4): its number; RINGS have their own (5): 70" */
    private static void hauntOfEachKind() {
        for (int kind = 0; kind < 3; kind++) {
            for (int b = 0; b < 5; b++) {
                BarrowNights x = Due.on("d" + (";" + LETTERS[kind] + "300").repeat(5) + ",001");
                Due.makeFault(x);
                Due.is("haunt of kind " + kind, x.haunt(b), kind == 2 ? 70 : b);
                Due.is("its trace", x.trace(), kind == 2 ? 5 : 4);
                Due.is("fault() stays", x.fault(), 4);
            }
        }
    }

    // ---- promise 28

    private static void traceAtFirst() {
        Edge.still("trace() of a new object", BarrowNights::new, x -> x.trace(), 0);
        Edge.still("trace() of a busy one", Edge::busy, x -> x.trace(), 1);
        BarrowNights x = Due.on(Due.FOUR);
        Due.is("no body began yet", x.trace(), 0);
    }

    /** "an int that wraps": past both ends */
    private static void traceWraps() {
        BarrowNights x = Due.on("d;r100;g100,001");
        long exact = 0;
        boolean above = false;
        boolean below = false;
        for (int t = 0; t < 40; t++) {
            Due.is("haunt", x.haunt(t % 2), t % 2 == 0 ? 0 : 70);
            exact = 31 * exact + (t % 2 == 0 ? 4 : 5);
            above |= exact > Integer.MAX_VALUE;
            below |= exact < Integer.MIN_VALUE;
            exact = (int) exact;
            Due.is("trace " + t, x.trace(), exact);
        }
        Due.holds("it wrapped above", above);
        Due.holds("it wrapped below", below);
    }

    private static void traceOfRefusedCalls() {
        BarrowNights x = Edge.busy();
        for (int b : Edge.beyond(3)) {
            Due.is("tell", x.tell(b), -1);
            Due.is("haunt", x.haunt(b), -1);
            Due.is("as", x.as(b, 0), -1);
        }
        Due.is("no body began", x.trace(), 1);
    }

    /** A TEXT that is taken, or not, leaves TRACE as it is. */
    private static void traceStays() {
        BarrowNights x = Edge.busy();
        Due.is("tell", x.tell(2), 104);
        int want = traced(1, 3, 2, 1, 1);
        Due.is("a text", x.down(0, 0, 0, 37), 4);
        Due.is("trace", x.trace(), want);
        Due.is("a broken text", x.down(0, 0, 0, 36), -136);
        Due.is("trace", x.trace(), want);
    }

    // ---- promise 27

    private static void asUnknown() {
        for (int b : Edge.beyond(3)) Edge.still("as of " + b, Edge::busy, x -> x.as(b, 0), -1, 0);
        Edge.still("no DOWN", BarrowNights::new, x -> x.as(0, 0), -1, 0);
    }

    private static void asOutside() {
        for (int kind : Edge.beyond(2)) {
            for (int barrow = 0; barrow < 4; barrow++) {
                int b = barrow;
                Edge.still("as of kind " + kind, Edge::busy, x -> x.as(b, kind), -2, 0);
            }
        }
    }

    /** "it is none (each is a ROUND one, too; a RING is a LONG one)" */
    private static void asCast() {
        for (int barrow = 0; barrow < 4; barrow++) {
            int b = barrow;
            int is = b == 3 ? 0 : b;
            for (int other = 0; other < 3; other++) {
                int kind = other;
                if (kind > is) Edge.faults(b + " as a " + kind, Edge::busy, x -> x.as(b, kind), 2);
                else Edge.still(b + " as a " + kind, Edge::busy, x -> x.as(b, kind), 1, 0);
            }
        }
    }

    private static void asOrder() {
        Edge.still("UNKNOWN ahead of OUTSIDE", Edge::busy, x -> x.as(4, 3), -1, 0);
        Edge.still("UNKNOWN ahead of CAST", Edge::busy, x -> x.as(-1, 2), -1, 0);
        Edge.still("OUTSIDE ahead of CAST", Edge::busy, x -> x.as(0, 3), -2, 0);
    }

    // ---- promise 29

    /** "0 ahead of any" */
    private static void faultAheadOfAny() {
        BarrowNights x = new BarrowNights();
        Due.is("of a new object", x.fault(), 0);
        callsThatNameNone(x);
        Due.is("none of these names one", x.fault(), 0);
    }

    /** "of the latest call that names one" */
    private static void faultOfTheLatestThatNamesOne() {
        BarrowNights x = Edge.busy();
        Due.faulted(x, "NULL", x.put(3, 0, 0), -11, 1);
        Due.faulted(x, "CAST", x.as(0, 1), -12, 2);
        Due.faulted(x, "INDEX", x.copy(0, 0, 0, 0, 38), -13, 3);
        Due.faulted(x, "SIZE", x.sheet(0, 0, -1), -14, 4);
        Due.faulted(x, "NULL", x.cell(3, 0, 0), Edge.LOST, 1);
        Due.faulted(x, "CAST", x.season(0, 1, 0, 0, 0), -12, 2);
        Due.faulted(x, "INDEX", x.lain(0, 0, 34, 0), -13, 3);
        Due.faulted(x, "SIZE", x.down(0, 0, 0, -1), -14, 4);
        Due.is("and again", x.fault(), 4);
    }

    /** "0: .. or was refused": each call that names one */
    private static void faultOfARefusedCall() {
        Edge.Act[] refused = {
            x -> x.down(4, 0, 0, 0), x -> x.down(0, 3, 0, 0), x -> x.season(4, 0, 0, 0, 0), x -> x.season(0, 3, 0, 0, 0),
            x -> x.season(0, 0, 0, 21, 0), x -> x.season(0, 0, 0, 0, 4), x -> x.season(0, 0, 0, 1, 0), x -> x.lain(4, 0, 0, 0),
            x -> x.lain(0, 3, 0, 0), x -> x.lain(0, 0, 0, 5), x -> x.sheet(4, 0, 0), x -> x.sheet(0, 3, 0), x -> x.sheet(0, 0, 61),
            x -> x.put(4, 0, 0), x -> x.cell(4, 0, 0), x -> x.cell(0, 0, 3), x -> x.copy(4, 0, 0, 0, 0), x -> x.copy(0, 0, 4, 0, 0),
            x -> x.as(4, 0), x -> x.as(0, 3), x -> x.down(0, 0, 1, 1),
        };
        for (int a = 0; a < refused.length; a++) {
            BarrowNights x = Edge.busy();
            Due.makeFault(x);
            Due.holds("refused call " + a, refused[a].on(x) < 0);
            Due.is("fault() behind refused call " + a, x.fault(), 0);
        }
    }

    /** "0: it came to none": each call that names one */
    private static void faultOfACallThatComesToNone() {
        Edge.Act[] taken = {
            x -> x.down(0, 0, 0, 37), x -> x.season(0, 0, 0, 0, 0), x -> x.lain(0, 0, 0, -1), x -> x.sheet(0, 0, 0), x -> x.put(0, 0, 0),
            x -> x.cell(0, 0, 0), x -> x.copy(0, 0, 0, 0, 0), x -> x.as(0, 0),
        };
        long[] want = {4, 3, 0, 1, 1, 'd', 0, 1};
        for (int a = 0; a < taken.length; a++) {
            BarrowNights x = Edge.busy();
            Due.makeFault(x);
            Due.is("taken call " + a, taken[a].on(x), want[a]);
            Due.is("fault() behind taken call " + a, x.fault(), 0);
        }
    }

    /** Calls that name no FAULT, refused and not. */
    private static void callsThatNameNone(BarrowNights x) {
        for (int number : new int[] {-1, 0, 1, 9}) {
            x.ofBarrow(0, number);
            x.ofBarrow(number, 0);
            x.ofWalker(0, number);
            x.ofWalker(number, 0);
            x.charge(number, 1);
            x.charge(0, number);
            x.earn(number, 1);
            x.earn(0, number);
            x.lodge(number, 0);
            x.lodge(0, number);
            x.leave(number);
            x.night(number);
            x.housed(number);
            x.ploughed(number);
            x.way(number, 0);
            x.way(0, number);
            x.reading(0, 0, number);
            x.back(number);
            x.rooms(number);
            x.kinds(number);
            x.odds(0, number);
            x.lose(number);
            x.tell(number);
            x.haunt(number);
            x.trace();
            x.many(number);
        }
    }

    private static void faultStays() {
        for (int fault = 0; fault <= 4; fault++) {
            BarrowNights x = Edge.busy();
            if (fault == 0) x.put(0, 0, 0);
            if (fault == 1) x.put(3, 0, 0);
            if (fault == 2) x.as(0, 2);
            if (fault == 3) x.put(0, 37, 0);
            if (fault == 4) x.sheet(0, 0, -1);
            Due.is("fault()", x.fault(), fault);
            callsThatNameNone(x);
            Due.is("fault() stays", x.fault(), fault);
        }
    }

    // ---- promise 30

    private static void manyOutside() {
        for (int what : Edge.beyond(4)) {
            Edge.still("many(" + what + ")", Edge::busy, x -> x.many(what), -2);
            Edge.still("many(" + what + ") without a DOWN", BarrowNights::new, x -> x.many(what), -2);
        }
        int[] want = {4, 4, 2, 2, 2};
        for (int asked = 0; asked <= 4; asked++) {
            int what = asked;
            Edge.still("many(" + what + ")", Edge::busy, x -> x.many(what), want[what]);
            Edge.still("many(" + what + ") without a DOWN", BarrowNights::new, x -> x.many(what), 0);
        }
    }

    /** Nobody and all lodge; one and five of each. */
    private static void manyAtBothEnds() {
        BarrowNights x = Due.on("d;r100,001");
        int[] least = {1, 1, 0, 0, 0};
        for (int what = 0; what <= 4; what++) Due.is("many(" + what + ")", x.many(what), least[what]);
        BarrowNights y = Due.on("d;r100;r100;r100;r100;r100,001,001,001,001,001");
        for (int w = 0; w < 5; w++) Due.is("lodge", y.lodge(w, 4 - w), 1);
        for (int r = 0; r < 8; r++) Due.is("reading", y.reading(0, 1, 1), r);
        Due.is("nights", y.night(30), 0);
        int[] most = {5, 5, 30, 5, 8};
        for (int what = 0; what <= 4; what++) Due.is("many(" + what + ")", y.many(what), most[what]);
        Due.is("one leaves", y.leave(4), 0);
        Due.is("four lodge", y.many(3), 4);
    }

    /** "at most 512 calls after it has been made": the last of them is answered as the others are. */
    private static void theLastCall() {
        BarrowNights x = new BarrowNights();
        String text = "d;r100,001";
        Due.is("call 1", x.sheet(0, 0, 10), 1);
        for (int i = 0; i < 10; i++) Due.is("calls 2 to 11", x.put(0, i, text.charAt(i)), 1);
        Due.is("call 12", x.down(0, 0, 0, 10), 1);
        for (int call = 13; call <= 510; call++) Due.is("call " + call, x.night(30), 0);
        Due.is("call 511", x.ofWalker(0, 4), 498 * 30);
        Due.is("call 512", x.many(2), 498 * 30);
        BarrowNights y = Due.on(text);
        int want = 0;
        for (int call = 13; call <= 511; call++) {
            Due.is("call " + call, y.tell(0), 1);
            want = 31 * want + 1;
        }
        Due.is("call 512", y.trace(), want);
    }
}

/** Promises 25 to 30: tell, haunt, as, trace, fault, many. */
public final class PartsTest {
    private static final String KINDS = "d;r300;l200;g400,001";

    public static void main(String[] args) {
        tell();
        haunt();
        traceWraps();
        as();
        fault();
        many();
        Due.end();
    }

    private static int traced(int before, int... bodies) {
        int all = before;
        for (int body : bodies) all = 31 * all + body;
        return all;
    }

    private static void tell() {
        BarrowNights x = Due.on(KINDS);
        Due.is("a round one", x.tell(0), 3);
        Due.is("its trace", x.trace(), 1);
        Due.is("a round one again", x.tell(0), 3);
        Due.is("trace goes on", x.trace(), 32);
        BarrowNights y = Due.on(KINDS);
        Due.is("a long one", y.tell(1), 102);
        Due.is("its trace", y.trace(), traced(0, 2, 1));
        BarrowNights z = Due.on(KINDS);
        Due.is("a ring", z.tell(2), 108);
        Due.is("its trace", z.trace(), traced(0, 3, 2, 1, 1));
        Due.is("barrow 3", z.tell(3), -1);
        Due.is("barrow -1", z.tell(-1), -1);
        Due.is("no trace of these", z.trace(), traced(0, 3, 2, 1, 1));
        Due.is("no down", new BarrowNights().tell(0), -1);
    }

    private static void haunt() {
        BarrowNights x = Due.on("d;r300;l200;g400;l100;g100,001");
        Due.is("a round one", x.haunt(0), 0);
        Due.is("its trace", x.trace(), 4);
        Due.is("a long one", x.haunt(1), 1);
        Due.is("its trace", x.trace(), traced(0, 4, 4));
        Due.is("a ring", x.haunt(2), 70);
        Due.is("its trace", x.trace(), traced(0, 4, 4, 5));
        Due.is("another long one", x.haunt(3), 3);
        Due.is("another ring", x.haunt(4), 70);
        Due.is("trace", x.trace(), traced(0, 4, 4, 5, 4, 5));
        Due.is("barrow 5", x.haunt(5), -1);
        Due.is("barrow -1", x.haunt(-1), -1);
        Due.is("no trace of these", x.trace(), traced(0, 4, 4, 5, 4, 5));
        Due.is("no down", new BarrowNights().haunt(0), -1);
    }

    private static void traceWraps() {
        BarrowNights x = Due.on(KINDS);
        int want = 0;
        for (int t = 0; t < 20; t++) {
            Due.is("a ring", x.tell(2), 108);
            want = traced(want, 3, 2, 1, 1);
            Due.is("trace " + t, x.trace(), want);
        }
        Due.is("as()", x.as(0, 0), 1);
        Due.is("as leaves no trace", x.trace(), want);
    }

    private static void as() {
        BarrowNights x = Due.on(KINDS);
        int[][] want = {{1, -12, -12}, {1, 1, -12}, {1, 1, 1}};
        for (int b = 0; b < 3; b++) {
            for (int kind = 0; kind < 3; kind++) {
                Due.faulted(x, "as(" + b + ", " + kind + ")", x.as(b, kind), want[b][kind], want[b][kind] == 1 ? 0 : 2);
            }
            Due.makeFault(x);
            Due.faulted(x, "kind 3", x.as(b, 3), -2, 0);
            Due.faulted(x, "kind -1", x.as(b, -1), -2, 0);
        }
        Due.makeFault(x);
        Due.faulted(x, "barrow 3, kind too", x.as(3, 3), -1, 0);
        Due.makeFault(x);
        Due.faulted(x, "barrow -1", x.as(-1, 0), -1, 0);
        Due.is("it is of its kind yet", x.ofBarrow(2, 0), 2);
        Due.is("no down", new BarrowNights().as(0, 0), -1);
    }

    /** Calls that name no fault leave fault() as it is, whether they are refused or not. */
    private static void fault() {
        BarrowNights x = Due.on(Due.FOUR);
        Due.makeFault(x);
        x.ofBarrow(0, 0);
        x.ofBarrow(9, 0);
        x.ofWalker(0, 0);
        x.charge(0, 10);
        x.charge(0, 1);
        x.earn(0, 9);
        x.lodge(0, 0);
        x.lodge(0, 0);
        x.leave(0);
        x.leave(0);
        x.night(1);
        x.night(0);
        x.housed(0);
        x.housed(9);
        x.ploughed(0);
        x.way(0, 0);
        x.reading(0, 0, 0);
        x.back(1);
        x.rooms(0);
        x.kinds(0);
        x.odds(0, 0);
        x.odds(9, 0);
        x.lose(3);
        x.lose(9);
        x.tell(0);
        x.haunt(0);
        x.trace();
        x.many(0);
        x.many(9);
        Due.is("fault() stays", x.fault(), 4);
        Due.is("fault() itself too", x.fault(), 4);
        Due.is("put comes to none", x.put(0, 0, 100), 1);
        Due.is("fault()", x.fault(), 0);
    }

    private static void many() {
        BarrowNights x = Due.on("d;r200;r105,001,002,003");
        int[] want = {2, 3, 0, 0, 0};
        for (int what = 0; what < 5; what++) Due.is("many " + what, x.many(what), want[what]);
        Due.is("what -1", x.many(-1), -2);
        Due.is("what 5", x.many(5), -2);
        Due.is("lodge", x.lodge(0, 0), 1);
        Due.is("lodge", x.lodge(2, 0), 2);
        Due.is("night", x.night(7), 0);
        Due.is("night", x.night(1), 0);
        Due.is("reading", x.reading(1, 1, 1), 0);
        int[] then = {2, 3, 8, 2, 1};
        for (int what = 0; what < 5; what++) Due.is("many " + what, x.many(what), then[what]);
        BarrowNights y = new BarrowNights();
        for (int what = 0; what < 5; what++) Due.is("many without a down", y.many(what), 0);
        Due.is("what -1 without a down", y.many(-1), -2);
    }
}

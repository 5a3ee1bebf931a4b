/** What the tests share: counting answers that are not as due, and telling rows to a sheet. */
final class Due {
    /** Four barrows (two ROUND, a LONG, a RING), four walkers. */
    static final String FOUR = "d;r124;l216;g201;r190,543,329,811,025";

    /** One broken promise can make thousands of wrong answers; the first ones are enough to find it. */
    private static final int MOST_PRINTED = 200;

    /** A call that does not end is wrong, too: a test takes seconds, so minutes are plenty. */
    private static final long MOST_MILLIS = 300_000;

    static {
        Thread watch = new Thread(Due::haltLate);
        watch.setDaemon(true);
        watch.start();
    }

    private static int right = 0;
    private static int wrong = 0;

    private Due() {
    }

    static void is(String call, long got, long want) {
        if (got == want) {
            right++;
            return;
        }
        wrong++;
        if (wrong <= MOST_PRINTED) System.out.println(call + " answered " + got + ", due is " + want);
    }

    static void holds(String what, boolean so) {
        is(what, so ? 1 : 0, 1);
    }

    /** A sheet gets just these numbers. */
    static void row(BarrowNights x, int k, int lane, int... values) {
        is("sheet for a row", x.sheet(k, lane, values.length), 1);
        for (int i = 0; i < values.length; i++) is("put of a row", x.put(k, i, values[i]), 1);
    }

    /** A text goes to sheet 0 as bytes, and from there to down. */
    static int tellDown(BarrowNights x, String text) {
        int[] codes = new int[text.length()];
        for (int i = 0; i < codes.length; i++) codes[i] = text.charAt(i);
        row(x, 0, 0, codes);
        return x.down(0, 0, 0, codes.length);
    }

    static BarrowNights on(String text) {
        BarrowNights x = new BarrowNights();
        holds("a down is taken: " + text, tellDown(x, text) > 0);
        return x;
    }

    /** Of one refused or faulted call: its answer, and what fault() tells then. */
    static void faulted(BarrowNights x, String call, long got, long want, int fault) {
        is(call, got, want);
        is("fault() behind " + call, x.fault(), fault);
    }

    /** Comes to a fault, so that a later 0 is seen to be new. */
    static void makeFault(BarrowNights x) {
        is("a size below 0", x.sheet(0, 0, -1), -14);
        is("its fault()", x.fault(), 4);
    }

    private static void haltLate() {
        try {
            Thread.sleep(MOST_MILLIS);
        } catch (InterruptedException e) {
            return;
        }
        System.out.println("the test did not end");
        Runtime.getRuntime().halt(1);
    }

    /** How many answers were looked at. */
    static long answers() {
        return right + (long) wrong;
    }

    static void end() {
        System.out.println(right + " answers as due, " + wrong + " not");
        if (wrong != 0 || right == 0) System.exit(1);
    }
}

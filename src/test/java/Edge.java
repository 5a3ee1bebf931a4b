import java.util.ArrayList;
import java.util.List;

/** Calls at an edge: each is made on one of two objects that were made alike, and both are looked through behind it. */
final class Edge {
    static final int LEAST = Integer.MIN_VALUE, GREATEST = Integer.MAX_VALUE;
    static final long LOST = Long.MIN_VALUE;

    private static final int STAYS = -1;

    /** Numbers below 0 .. most and above it: the first ones, and the last that there are. */
    static int[] beyond(int most) {
        return new int[] {-1, most + 1, LEAST, LEAST + 1, GREATEST - 1, GREATEST};
    }

    interface Made {
        BarrowNights make();
    }

    interface Act {
        long on(BarrowNights x);
    }

    interface OfRow {
        long on(BarrowNights x, int k, int lane);
    }

    private Edge() {
    }

    /**
     * A down with lodgers, nights gone by, the cold, readings and a trace; sheet 0 has 37 bytes, sheet 1 has 3 shorts,
     * sheet 2 has 6 ints, sheet 3 has nothing.
     */
    static BarrowNights busy() {
        BarrowNights x = Due.on(Due.FOUR);
        Due.row(x, 1, 1, 300, -5, 7);
        Due.row(x, 2, 2, 70000, 1, 2, 3, 4, -70000);
        Due.is("busy: 0 lodges in 1", x.lodge(0, 1), 1);
        Due.is("busy: 1 lodges in 2", x.lodge(1, 2), 1);
        Due.is("busy: nights", x.night(2), 0);
        Due.is("busy: a reading", x.reading(1, 3, 0), 0);
        Due.is("busy: another", x.reading(2, 3, 1), 1);
        Due.is("busy: a trace", x.tell(0), 1);
        return x;
    }

    /** A call that names no FAULT and changes nothing: its answer, and that fault() and all else stays. */
    static void still(String call, Made made, Act act, long want) {
        still(call, made, act, want, STAYS);
    }

    /** A call that names FAULTS and changes nothing but fault(): its answer, what fault() tells, and that all else stays. */
    static void still(String call, Made made, Act act, long want, int fault) {
        for (int before = 0; before < 2; before++) {
            BarrowNights x = faulted(made, before);
            BarrowNights y = faulted(made, before);
            Due.is(call, act.on(x), want);
            Due.is("fault() behind " + call, x.fault(), fault == STAYS ? y.fault() : fault);
            same(call, x, y);
        }
    }

    /** A call that comes to a FAULT: -10 less it is answered. */
    static void faults(String call, Made made, Act act, int fault) {
        still(call, made, act, -10 - fault, fault);
    }

    /** A call that takes a sheet as a row of a LANE: CAST, if it is of another; NULL, not CAST, if there is nothing. */
    static void castsAndNulls(String call, OfRow act, boolean answersLong) {
        for (int sheet = 0; sheet <= 3; sheet++) {
            for (int taken = 0; taken <= 2; taken++) {
                int k = sheet;
                int lane = taken;
                int fault = k == 3 ? 1 : 2;
                long want = answersLong ? LOST : -10 - fault;
                if (k != lane) still(call + " by sheet " + k + " as of lane " + lane, Edge::busy, x -> act.on(x, k, lane), want, fault);
            }
        }
    }

    /** One of two FAULTS comes first, so that what fault() tells later is seen to be new. */
    private static BarrowNights faulted(Made made, int before) {
        BarrowNights x = made.make();
        if (before == 0) Due.is("a FAULT ahead", x.sheet(0, 0, -1), -14);
        else Due.holds("another FAULT ahead", x.put(0, -1, 0) < -10);
        return x;
    }

    /** That two objects answer alike to all that can be asked; some 250 calls of each. */
    static void same(String behind, BarrowNights x, BarrowNights y) {
        List<Long> one = looks(x);
        List<Long> other = looks(y);
        for (int i = 0; i < one.size() && i < other.size(); i++) {
            Due.is("look " + i + " behind " + behind, one.get(i), other.get(i));
        }
        Due.is("looks behind " + behind, one.size(), other.size());
    }

    private static List<Long> looks(BarrowNights x) {
        List<Long> all = new ArrayList<>();
        all.add((long) x.trace());
        for (int what = 0; what < 5; what++) all.add((long) x.many(what));
        for (int b = 0; b < x.many(0); b++) {
            for (int what = 0; what < 6; what++) all.add((long) x.ofBarrow(b, what));
        }
        for (int w = 0; w < x.many(1); w++) {
            for (int what = 0; what < 6; what++) all.add((long) x.ofWalker(w, what));
        }
        for (int k = 0; k < 4; k++) lookAtSheet(all, x, k);
        lookAtReadings(all, x);
        return all;
    }

    private static void lookAtSheet(List<Long> all, BarrowNights x, int k) {
        for (int lane = 0; lane < 3; lane++) {
            long cell = x.cell(k, 0, lane);
            all.add(cell);
            all.add((long) x.fault());
            for (int i = 1; cell != LOST && i <= 60; i++) {
                cell = x.cell(k, i, lane);
                all.add(cell);
            }
        }
    }

    /** The last readings are taken back one by one, so that each of them is seen. */
    private static void lookAtReadings(List<Long> all, BarrowNights x) {
        for (int left = x.many(4); left >= 0; left--) {
            for (int b = 0; b < x.many(0); b++) {
                all.add((long) x.rooms(b));
                all.add((long) x.kinds(b));
            }
            if (left > 0) all.add((long) x.back(1));
        }
    }
}

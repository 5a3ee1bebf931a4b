/** What holds the sections of promises 1 to 30, in their order. DocumentTest quotes them. */
final class PromisesHold {
    private static final long LOST = Long.MIN_VALUE;
    private static final int NULL = 1, CAST = 2, INDEX = 3, SIZE = 4;

    private PromisesHold() {
    }

    /** A call that names no FAULT, refused on the busy down (four BARROWS, four WALKERS). */
    private static void refused(String call, Edge.Act act, long want) {
        Edge.still(call, Edge::busy, act, want);
    }

    /** A refused call that names FAULTS. */
    private static void refusedWithFault(String call, Edge.Act act, long want) {
        Edge.still(call, Edge::busy, act, want, 0);
    }

    private static Edge.Made busyWith(int... cells) {
        return () -> {
            BarrowNights x = Edge.busy();
            Due.row(x, 3, 2, cells);
            return x;
        };
    }

    // ---- 1 the down

    static void newObject() {
        BarrowNights x = new BarrowNights();
        for (int what = 0; what <= 4; what++) Due.is("many(" + what + ")", x.many(what), 0);
        Due.is("no BARROW", x.ofBarrow(0, 0), -1);
        Due.is("no WALKER", x.ofWalker(0, 0), -1);
        Due.is("no DOWN", x.night(1), -3);
        for (int k = 0; k <= 3; k++) {
            Due.is("nothing to put to", x.put(k, 0, 0), -11);
            Due.is("nothing to lose", x.lose(k), 0);
        }
    }

    /** The TEXT stands in the midst of a longer row, of each LANE, on each SHEET. */
    static void downByCells() {
        int[] row = ("xx" + Due.FOUR + ",999").chars().toArray();
        for (int lane = 0; lane <= 2; lane++) {
            for (int k = 0; k <= 3; k++) {
                BarrowNights x = new BarrowNights();
                Due.row(x, k, lane, row);
                Due.is("how many BARROWS", x.down(k, lane, 2, 37), 4);
                Due.is("WALKERS", x.many(1), 4);
                Due.is("fault()", x.fault(), 0);
                Due.is("with one WALKER more", x.down(k, lane, 2, 41), 4);
                Due.is("WALKERS", x.many(1), 5);
            }
        }
        int[] sixty = (Due.FOUR + "x".repeat(23)).chars().toArray();
        BarrowNights x = new BarrowNights();
        Due.row(x, 3, 0, sixty);
        Due.is("all of 60 cells", x.down(3, 0, 0, 60), -137);
        Due.is("37 of 60 cells", x.down(3, 0, 0, 37), 4);
    }

    static void downFirstFault() {
        for (int n = 0; n < 24; n++) {
            int codes = n;
            Edge.still("down by " + n + " codes", Edge::busy, x -> x.down(0, 0, 0, codes), -100 - codes, 0);
        }
        Edge.still("down from 1 on", Edge::busy, x -> x.down(0, 0, 1, 36), -100, 0);
    }

    static void downRefused() {
        for (int k : Edge.beyond(3)) refusedWithFault("down by SHEET " + k, x -> x.down(k, 0, 0, 37), -1);
        for (int lane : Edge.beyond(2)) refusedWithFault("down by lane " + lane, x -> x.down(0, lane, 0, 37), -2);
    }

    static void downFaults() {
        Edge.castsAndNulls("down", (x, k, lane) -> x.down(k, lane, 0, 0), false);
        Edge.faults("n is below 0", Edge::busy, x -> x.down(0, 0, 0, -1), SIZE);
        for (int i : new int[] {-1, 1, Integer.MAX_VALUE}) Edge.faults("37 from " + i, Edge::busy, x -> x.down(0, 0, i, 37), INDEX);
        for (int n : new int[] {38, Integer.MAX_VALUE}) Edge.faults(n + " from 0", Edge::busy, x -> x.down(0, 0, 0, n), INDEX);
    }

    static void ofBarrow() {
        BarrowNights x = Edge.busy();
        int[][] want = {{0, 1, 2, 4, 1, 0}, {1, 2, 1, 6, 4, 1}, {2, 2, 0, 1, 3, 2}, {0, 1, 9, 0, 1, 0}};
        for (int b = 0; b < 4; b++) {
            for (int what = 0; what <= 5; what++) Due.is("ofBarrow(" + b + ", " + what + ")", x.ofBarrow(b, what), want[b][what]);
        }
    }

    static void ofBarrowRefused() {
        for (int b : Edge.beyond(3)) refused("ofBarrow of " + b, x -> x.ofBarrow(b, 0), -1);
        for (int what : Edge.beyond(5)) refused("ofBarrow, what " + what, x -> x.ofBarrow(0, what), -2);
    }

    static void ofWalker() {
        BarrowNights x = Edge.busy();
        Due.is("lodge", x.lodge(2, 2), 2);
        int[][] want = {{3, 6, 3, 1, 0, 11}, {3, 1, 9, 2, 0, 12}, {8, 1, 1, 2, 2, 1}, {0, 2, 5, -9, 2, -9}};
        for (int w = 0; w < 4; w++) {
            for (int what = 0; what <= 5; what++) Due.is("ofWalker(" + w + ", " + what + ")", x.ofWalker(w, what), want[w][what]);
        }
    }

    static void ofWalkerRefused() {
        for (int w : Edge.beyond(3)) refused("ofWalker of " + w, x -> x.ofWalker(w, 0), -1);
        for (int what : Edge.beyond(5)) refused("ofWalker, what " + what, x -> x.ofWalker(0, what), -2);
    }

    static void charge() {
        BarrowNights x = Due.on(Due.FOUR);
        int[] was = {2, 1, 0, 9};
        for (int b = 0; b < 4; b++) {
            int before = was[b];
            for (int v = 0; v <= 9; v++) {
                Due.is("what they were", x.charge(b, v), before);
                Due.is("what they are", x.ofBarrow(b, 2), v);
                before = v;
            }
        }
    }

    static void chargeRefused() {
        for (int b : Edge.beyond(3)) refused("charge of " + b, x -> x.charge(b, 0), -1);
        for (int v : Edge.beyond(9)) refused("charge to " + v, x -> x.charge(0, v), -2);
    }

    static void earn() {
        BarrowNights x = Due.on(Due.FOUR);
        int[] was = {5, 3, 8, 0};
        for (int w = 0; w < 4; w++) {
            int before = was[w];
            for (int v : new int[] {0, 1, 9, 10, 98, 99}) {
                Due.is("what they were", x.earn(w, v), before);
                Due.is("what they are", x.ofWalker(w, 0), v);
                before = v;
            }
        }
    }

    static void earnRefused() {
        for (int w : Edge.beyond(3)) refused("earn of " + w, x -> x.earn(w, 0), -1);
        for (int v : Edge.beyond(99)) refused("earn to " + v, x -> x.earn(0, v), -2);
    }

    // ---- 2 nights

    static void lodge() {
        BarrowNights x = Due.on("d;l400;r100,001,001,001,001,001");
        int[] order = {3, 0, 4, 2};
        for (int t = 0; t < 4; t++) Due.is("how many lodge there", x.lodge(order[t], 0), t + 1);
        Due.is("the only one there", x.lodge(1, 1), 1);
        Due.is("its BARROW", x.ofWalker(1, 3), 1);
        Due.is("the others", x.ofBarrow(0, 5), 1 + 4 + 8 + 16);
    }

    static void lodgeRefused() {
        for (int w : Edge.beyond(3)) refused("lodge of " + w, x -> x.lodge(w, 0), -1);
        for (int b : Edge.beyond(3)) refused("lodge in " + b, x -> x.lodge(2, b), -1);
        refused("it lodges", x -> x.lodge(1, 0), -3);
        refused("it can't: too far", x -> x.lodge(2, 0), -3);
        refused("it can't: too dear", x -> x.lodge(3, 3), -3);
        Edge.still("it can't: no room", () -> {
            BarrowNights x = Due.on("d;r100,001,001");
            Due.is("lodge", x.lodge(1, 0), 1);
            return x;
        }, x -> x.lodge(0, 0), -3);
    }

    static void leave() {
        BarrowNights x = Edge.busy();
        Due.is("the BARROW of 0", x.leave(0), 1);
        Due.is("the BARROW of 1", x.leave(1), 2);
        Due.is("who lodge", x.many(3), 0);
        Due.is("its PLACE", x.ofWalker(0, 1), 6);
        Due.is("its MEANS", x.ofWalker(0, 0), 3);
    }

    static void leaveRefused() {
        for (int w : Edge.beyond(3)) refused("leave of " + w, x -> x.leave(w), -1);
        for (int w = 2; w <= 3; w++) {
            int one = w;
            refused("it does not lodge", x -> x.leave(one), -3);
        }
    }

    static void night() {
        for (int n = 1; n <= 30; n++) {
            BarrowNights x = Due.on("d;l110;r100,501,901,001,001");
            for (int w = 0; w < 2; w++) Due.is("lodge", x.lodge(w, 0), w + 1);
            Due.is("lodge", x.lodge(2, 1), 1);
            Due.is("PUT OUT in " + n, x.night(n), (n > 5 ? 1 : 0) + (n > 9 ? 1 : 0));
            Due.is("NIGHTS", x.many(2), n);
            int[] cold = {Math.max(0, n - 5), Math.max(0, n - 9), 0, n};
            for (int w = 0; w < 4; w++) Due.is("COLD " + w, x.ofWalker(w, 4), cold[w]);
        }
    }

    static void nightRefused() {
        for (int n : Edge.beyond(30)) refused("night of " + n, x -> x.night(n), -2);
        refused("night of 0", x -> x.night(0), -2);
        Edge.still("there is no DOWN", BarrowNights::new, x -> x.night(30), -3);
    }

    /** A season on the busy down: its answer, and that nothing is changed. */
    private static void season(int what, long want, int... pairs) {
        Edge.still("season, what " + what, busyWith(pairs), x -> x.season(3, 2, 0, pairs.length / 2, what), want, 0);
    }

    static void seasonOfPairs() {
        season(0, 3);
        season(0, 7, 2, 2);
        season(0, 2, 0, 9);
        BarrowNights x = Edge.busy();
        Due.row(x, 3, 0, 77, 77, 77, 2, 2, 0, 9, 77);
        Due.is("two pairs from cell 3 on", x.season(3, 0, 3, 2, 0), 6);
        Due.is("one pair from cell 5 on", x.season(3, 0, 5, 1, 0), 2);
        Due.is("no pair", x.season(3, 0, 8, 0, 0), 3);
    }

    static void seasonFirstWrong() {
        season(1, -9, 0, 9, 1, 9);
        season(1, 0, 0, 1);
        season(1, 2, 0, 9, 9, 8, 0, 9, 0, 9);
    }

    static void seasonPutOut() {
        season(2, 0, 3, 8);
        season(2, 1, 4, 8);
        season(2, 1, 9, 8, 9, 8);
        season(2, 2, 4, 8, 2, 2, 1, 9, 1, 1, 9, 8);
    }

    static void seasonMeans() {
        season(3, 3 + 3 + 8 + 0);
        season(3, 1 + 3 + 8 + 0, 2, 8);
        season(3, 0 + 3 + 8 + 0, 9, 8);
        BarrowNights x = Due.on("d" + ";r110".repeat(5) + ",101,201,301,401,501");
        for (int w = 0; w < 5; w++) Due.is("lodge", x.lodge(w, w), 1);
        Due.row(x, 3, 0, 1, 8);
        Due.is("MEANS of five", x.season(3, 0, 0, 1, 3), 0 + 1 + 2 + 3 + 4);
    }

    static void seasonBarrow() {
        int[] want = {-9, 2, 2, -9, -9};
        for (int w = 0; w < 5; w++) season(10 + w, want[w], 2, 2, 0, 9);
    }

    static void seasonCold() {
        int[] want = {6, 0, 11, 11, -9};
        for (int w = 0; w < 5; w++) season(20 + w, want[w], 9, 8);
    }

    static void seasonWithAFirstWrong() {
        for (int what : new int[] {0, 2, 3, 10, 14, 20, 24}) {
            season(what, -100, 0, 1);
            season(what, -102, 0, 9, 1, 8, 0, 9);
        }
        season(1, 2, 0, 9, 1, 8, 0, 9);
    }

    static void seasonRefused() {
        for (int k : Edge.beyond(3)) refusedWithFault("season by SHEET " + k, x -> x.season(k, 0, 0, 0, 0), -1);
        for (int lane : Edge.beyond(2)) refusedWithFault("season by lane " + lane, x -> x.season(0, lane, 0, 0, 0), -2);
        for (int n : Edge.beyond(20)) refusedWithFault("season of " + n, x -> x.season(0, 0, 0, n, 0), -2);
        for (int what : new int[] {-1, 4, 9, 15, 19, 25, Integer.MIN_VALUE, Integer.MAX_VALUE}) {
            refusedWithFault("season, what " + what, x -> x.season(0, 0, 0, 0, what), -2);
        }
        int[] twenty = new int[40];
        for (int a = 0; a < 20; a++) twenty[2 * a + 1] = 8;
        season(0, 3, twenty);
        twenty[38] = 9;
        season(22, 2 + 9, twenty);
    }

    static void seasonFaults() {
        Edge.castsAndNulls("season", (x, k, lane) -> x.season(k, lane, 0, 0, 0), false);
        for (int i : new int[] {-1, 3, 4, Integer.MAX_VALUE}) {
            Edge.faults("2 cells from " + i, busyWith(0, 9, 1, 9), x -> x.season(3, 2, i, 1, 0), INDEX);
        }
        Edge.faults("6 cells of 4", busyWith(0, 9, 1, 9), x -> x.season(3, 2, 0, 3, 0), INDEX);
    }

    static void seasonWithoutADown() {
        Edge.Made rowAlone = () -> {
            BarrowNights x = new BarrowNights();
            Due.row(x, 1, 0, 0, 77);
            return x;
        };
        Edge.still("there is no DOWN", rowAlone, x -> x.season(1, 0, 0, 1, 0), -3, 0);
        Edge.still("there is no DOWN, no pair", rowAlone, x -> x.season(1, 0, 0, 0, 1), -3, 0);
    }

    static void seasonPairOutside() {
        for (int second : new int[] {-1, 4, 5, 7, 10, Integer.MIN_VALUE, Integer.MAX_VALUE}) season(1, -2, 0, second);
        for (int first : Edge.beyond(9)) season(1, -2, first, 8);
        for (int first = 0; first <= 9; first++) season(1, -9, first, 8);
        season(1, -2, 4, 4);
        season(1, -2, 0, 9, 0, 4, 4, 0);
    }

    static void seasonPairUnknown() {
        for (int first : Edge.beyond(3)) {
            season(1, -1, first, 0);
            season(1, -1, first, 9);
        }
        season(1, -1, 0, 9, 4, 0, 0, 4);
        season(1, -1, 0, 1, 4, 9);
    }

    // ---- 3 who is housed

    static void housed() {
        BarrowNights x = Due.on(Due.FOUR);
        int[] want = {4, 1, 1, 2, 2, 2, -9};
        for (int k = -2; k <= 4; k++) Due.is("housed(" + k + ")", x.housed(k), want[k + 2]);
        Due.is("MEANS", x.earn(0, 0), 5);
        Due.is("PENCE", x.charge(2, 9), 0);
        int[] then = {1, 1, -9, 1, -9, -9, -9};
        for (int k = -2; k <= 4; k++) Due.is("housed(" + k + ")", x.housed(k), then[k + 2]);
    }

    static void housedRefused() {
        for (int k : new int[] {-3, 5, Integer.MIN_VALUE, Integer.MAX_VALUE}) refused("housed(" + k + ")", x -> x.housed(k), -2);
        for (int k = -2; k <= 4; k++) {
            int asked = k;
            Edge.still("there is no DOWN", BarrowNights::new, x -> x.housed(asked), -3);
        }
    }

    static void ploughed() {
        int[] want = {4, 4, 2, 4};
        BarrowNights x = Due.on(Due.FOUR);
        for (int b = 0; b < 4; b++) Due.is("ploughed(" + b + ")", x.ploughed(b), want[b]);
        for (int b : Edge.beyond(3)) refused("ploughed(" + b + ")", y -> y.ploughed(b), -1);
        Edge.still("no BARROW", BarrowNights::new, y -> y.ploughed(0), -1);
    }

    static void way() {
        BarrowNights x = Due.on(Due.FOUR);
        int[][] want = {{1, 0, 0, 0, 0, 0, 0, 0, 1, 1}, {0, 0, 0, 0, 0, 0, 0, 0, 0, 0}, {0, 0, 0, -9, -9, -9, -9, -9, -9, -9}, {0, 0, 0, 0, 0, 0, 0, 0, 1, 1}};
        for (int w = 0; w < 4; w++) {
            for (int place = 0; place <= 9; place++) Due.is("way(" + w + ", " + place + ")", x.way(w, place), want[w][place]);
        }
    }

    static void wayRefused() {
        for (int w : Edge.beyond(3)) refused("way of " + w, x -> x.way(w, 0), -1);
        for (int place : Edge.beyond(9)) refused("way to " + place, x -> x.way(0, place), -2);
    }

    static void lain() {
        BarrowNights x = Due.on(Due.FOUR);
        Due.row(x, 3, 1, 77, 11, 0, 1, 99, 77);
        int[] want = {1, 1, 1, 1, -9, -9};
        for (int k = -1; k <= 4; k++) Due.is("lain, " + k, x.lain(3, 1, 1, k), want[k + 1]);
        for (int k = -1; k <= 4; k++) Due.is("no way, " + k, x.lain(3, 1, 0, k), k < 0 ? 0 : -9);
        Due.row(x, 3, 1, -9, -9, -9, -9);
        int[] any = {0, 1, 1, 1, -9};
        Due.is("how many ways", x.lain(3, 1, 0, -1), 404);
        for (int w = 0; w <= 4; w++) Due.is("the first, " + w, x.lain(3, 1, 0, w), any[w]);
    }

    static void lainRefused() {
        Edge.Made made = busyWith(99, 99, 99, 99);
        for (int k : Edge.beyond(3)) Edge.still("lain by SHEET " + k, made, x -> x.lain(k, 2, 0, 0), -1, 0);
        for (int lane : Edge.beyond(2)) Edge.still("lain by lane " + lane, made, x -> x.lain(3, lane, 0, 0), -2, 0);
        for (int k : new int[] {-2, 5, Integer.MIN_VALUE, Integer.MAX_VALUE}) Edge.still("lain of " + k, made, x -> x.lain(3, 2, 0, k), -2, 0);
        for (int k = -1; k <= 4; k++) {
            int asked = k;
            Edge.still("there is no DOWN", BarrowNights::new, x -> x.lain(0, 0, 0, asked), -3, 0);
        }
    }

    static void lainFaults() {
        Edge.castsAndNulls("lain", (x, k, lane) -> x.lain(k, lane, 0, 0), false);
        Edge.Made made = busyWith(99, 99, 99, 99, 10);
        for (int i : new int[] {-1, 2, 5, Integer.MIN_VALUE, Integer.MAX_VALUE}) Edge.faults("lain from " + i, made, x -> x.lain(3, 2, i, -1), INDEX);
        for (int i = 0; i <= 1; i++) {
            int from = i;
            Edge.still("lain from " + i, made, x -> x.lain(3, 2, from, -1), 1, 0);
        }
    }

    // ---- 4 when it was full

    static void reading() {
        BarrowNights x = Due.on(Due.FOUR);
        for (int r = 0; r < 8; r++) {
            Due.is("its number", x.reading(r % 4, r, r % 2), r);
            Due.is("READINGS", x.many(4), r + 1);
        }
    }

    static void readingRefused() {
        for (int b : Edge.beyond(3)) refused("reading of " + b, x -> x.reading(b, 0, 0), -1);
        for (int lodgers : Edge.beyond(9)) refused("lodgers " + lodgers, x -> x.reading(0, lodgers, 0), -2);
        for (int full : Edge.beyond(1)) refused("full " + full, x -> x.reading(0, 0, full), -2);
        for (int lodgers = 0; lodgers <= 9; lodgers++) Due.is("lodgers " + lodgers, Edge.busy().reading(0, lodgers, 1), 2);
        BarrowNights x = Due.on("d;r100,001");
        for (int r = 0; r < 8; r++) Due.is("reading", x.reading(0, 1, 1), r);
        Due.is("FULL", x.reading(0, 1, 0), -4);
        Due.is("READINGS", x.many(4), 8);
        Due.is("it is not there", x.rooms(0), 2);
    }

    /** Eight READINGS, each of which leaves fewer BEDS, or the same: so it is seen which are taken back. */
    static void back() {
        int[] lodgers = {9, 4, 3, 3, 2, 2, 1, 1};
        for (int k = 0; k <= 8; k++) {
            BarrowNights x = Due.on("d;r100,001");
            for (int r = 0; r < 8; r++) Due.is("reading", x.reading(0, lodgers[r], 1), r);
            Due.is("how many are left", x.back(k), 8 - k);
            Due.is("READINGS", x.many(4), 8 - k);
            int set = 0;
            for (int beds = 1; beds <= 4; beds++) {
                boolean so = true;
                for (int r = 0; r < 8 - k; r++) so &= beds <= lodgers[r];
                if (so) set += 1 << beds;
            }
            Due.is("rooms by those left", x.rooms(0), set);
        }
    }

    static void backRefused() {
        for (int k : Edge.beyond(2)) refused("back(" + k + ")", x -> x.back(k), -2);
        Edge.still("none of none", BarrowNights::new, x -> x.back(0), 0);
        Edge.still("one of none", BarrowNights::new, x -> x.back(1), -2);
    }

    static void rooms() {
        BarrowNights x = Edge.busy();
        Due.is("no READING of 0", x.rooms(0), 30);
        Due.is("a LONG one that was not full with 3", x.rooms(1), 4 + 8 + 16);
        Due.is("a RING that was full with 3", x.rooms(2), 2 + 4);
        for (int b : Edge.beyond(3)) refused("rooms(" + b + ")", y -> y.rooms(b), -1);
        Edge.still("no BARROW", BarrowNights::new, y -> y.rooms(0), -1);
    }

    static void kinds() {
        BarrowNights x = Edge.busy();
        Due.is("no READING of 0", x.kinds(0), 7);
        Due.is("2 BEDS, and it was not full with 3", x.kinds(1), 2);
        Due.is("2 BEDS, and it was full with 3", x.kinds(2), 1 + 4);
        for (int b : Edge.beyond(3)) refused("kinds(" + b + ")", y -> y.kinds(b), -1);
        Edge.still("no BARROW", BarrowNights::new, y -> y.kinds(0), -1);
    }

    static void odds() {
        BarrowNights x = Due.on(Due.FOUR);
        int[] upper = {369, 1, 17, 369};
        for (int b = 0; b < 4; b++) {
            Due.is("the upper number", x.odds(b, 0), upper[b]);
            Due.is("the lower number", x.odds(b, 1), 625);
        }
    }

    static void oddsRefused() {
        for (int b : Edge.beyond(3)) refused("odds of " + b, x -> x.odds(b, 0), LOST);
        for (int which : Edge.beyond(1)) refused("odds, which " + which, x -> x.odds(0, which), LOST);
        Edge.still("no BARROW", BarrowNights::new, x -> x.odds(0, 0), LOST);
    }

    // ---- 5 sheets, parts

    static void sheet() {
        for (int k = 0; k <= 3; k++) {
            for (int lane = 0; lane <= 2; lane++) {
                BarrowNights x = Edge.busy();
                Due.is("a new row", x.sheet(k, lane, 3), 1);
                for (int i = 0; i < 3; i++) Due.is("it is 0", x.cell(k, i, lane), 0);
                Due.is("it has 3 cells", x.cell(k, 3, lane), LOST);
                Due.is("fault()", x.fault(), INDEX);
            }
        }
        for (int k = 0; k <= 3; k++) sheetOfSixtyAmongOthers(k);
    }

    /** The others keep their rows of 60 cells. */
    private static void sheetOfSixtyAmongOthers(int k) {
        BarrowNights x = new BarrowNights();
        for (int other = 0; other <= 3; other++) {
            Due.is("60 cells", x.sheet(other, 2, 60), 1);
            Due.is("the first", x.put(other, 0, 1 + other), 1);
            Due.is("the last", x.put(other, 59, 11 + other), 1);
        }
        Due.is("a new row", x.sheet(k, 2, 60), 1);
        for (int other = 0; other <= 3; other++) {
            Due.is("the first", x.cell(other, 0, 2), other == k ? 0 : 1 + other);
            Due.is("the last", x.cell(other, 59, 2), other == k ? 0 : 11 + other);
        }
    }

    static void sheetRefused() {
        for (int k : Edge.beyond(3)) refusedWithFault("sheet " + k, x -> x.sheet(k, 0, 0), -1);
        for (int lane : Edge.beyond(2)) refusedWithFault("sheet of lane " + lane, x -> x.sheet(0, lane, 0), -2);
        for (int n : new int[] {61, Integer.MAX_VALUE}) refusedWithFault("sheet of " + n, x -> x.sheet(0, 0, n), -2);
        for (int n : new int[] {-1, Integer.MIN_VALUE}) Edge.faults("sheet of " + n, Edge::busy, x -> x.sheet(0, 0, n), SIZE);
    }

    static void lose() {
        BarrowNights x = Edge.busy();
        for (int k = 0; k <= 3; k++) {
            Due.is("it had a row, but for 3", x.lose(k), k < 3 ? 1 : 0);
            Due.is("it has nothing", x.put(k, 0, 0), -11);
            Due.is("it had nothing", x.lose(k), 0);
        }
        Due.is("a row of no cells", x.sheet(0, 0, 0), 1);
        Due.is("is a row", x.lose(0), 1);
        for (int k : Edge.beyond(3)) refused("lose(" + k + ")", y -> y.lose(k), -1);
    }

    static void put() {
        BarrowNights x = Edge.busy();
        for (int i = 0; i < 6; i++) Due.is("put", x.put(2, i, 100 * i), 1);
        for (int i = 0; i < 6; i++) Due.is("cell", x.cell(2, i, 2), 100 * i);
        Due.is("fault()", x.fault(), 0);
        for (int k : Edge.beyond(3)) refusedWithFault("put to " + k, y -> y.put(k, 0, 0), -1);
        Edge.faults("put to nothing", Edge::busy, y -> y.put(3, 0, 0), NULL);
        for (int i : Edge.beyond(5)) Edge.faults("put at " + i, Edge::busy, y -> y.put(2, i, 0), INDEX);
    }

    static void cell() {
        long[][] rows = {{'d', ';', 'r'}, {300, -5, 7}, {70000, 1, 2}};
        for (int k = 0; k <= 2; k++) {
            for (int i = 0; i < 3; i++) {
                int row = k;
                int at = i;
                Edge.still("cell(" + k + ", " + i + ", " + k + ")", Edge::busy, x -> x.cell(row, at, row), rows[k][i], 0);
            }
        }
    }

    static void cellLost() {
        for (int k : Edge.beyond(3)) refusedWithFault("cell of " + k, x -> x.cell(k, 0, 0), LOST);
        for (int lane : Edge.beyond(2)) refusedWithFault("cell of lane " + lane, x -> x.cell(0, 0, lane), LOST);
        Edge.castsAndNulls("cell", (x, k, lane) -> x.cell(k, 0, lane), true);
        for (int i : Edge.beyond(5)) Edge.still("cell " + i, Edge::busy, x -> x.cell(2, i, 2), LOST, INDEX);
    }

    /** A row of 1, 2, .. 6 copied onto itself, and to another one. */
    static void copy() {
        for (int i = 0; i <= 6; i++) {
            for (int j = 0; j <= 6; j++) {
                for (int n = 0; n <= 6 - Math.max(i, j); n++) {
                    BarrowNights x = new BarrowNights();
                    Due.row(x, 0, 1, 1, 2, 3, 4, 5, 6);
                    Due.row(x, 1, 1, -1, -2, -3, -4, -5, -6);
                    Due.is("n cells to the other", x.copy(0, i, 1, j, n), n);
                    Due.is("n cells to itself", x.copy(0, i, 0, j, n), n);
                    for (int c = 0; c < 6; c++) {
                        boolean taken = c >= j && c < j + n;
                        Due.is("of the other", x.cell(1, c, 1), taken ? i + c - j + 1 : -c - 1);
                        Due.is("of itself", x.cell(0, c, 1), taken ? i + c - j + 1 : c + 1);
                    }
                }
            }
        }
    }

    static void copyRefused() {
        for (int k : Edge.beyond(3)) {
            refusedWithFault("copy from " + k, x -> x.copy(k, 0, 0, 0, 1), -1);
            refusedWithFault("copy to " + k, x -> x.copy(0, 0, k, 0, 1), -1);
        }
        Edge.faults("the first is nothing", Edge::busy, x -> x.copy(3, 0, 0, 0, 1), NULL);
        Edge.faults("the other is nothing", Edge::busy, x -> x.copy(0, 0, 3, 0, 1), NULL);
        Edge.faults("unlike LANES", Edge::busy, x -> x.copy(1, 0, 2, 0, 1), CAST);
        int[][] beyond = {{-1, 0, 1}, {0, -1, 1}, {0, 0, -1}, {6, 0, 1}, {0, 6, 1}, {0, 0, 7}, {7, 0, 0}, {0, 7, 0}, {3, 0, 4}, {0, 3, 4}};
        for (int[] way : beyond) {
            Edge.faults("copy of 6 cells", Edge::busy, x -> x.copy(2, way[0], 2, way[1], way[2]), INDEX);
        }
        Edge.faults("1 and the greatest", Edge::busy, x -> x.copy(2, 1, 2, 1, Integer.MAX_VALUE), INDEX);
    }

    static void tell() {
        BarrowNights x = Due.on(Due.FOUR);
        int[] want = {1, 102, 104, 1};
        for (int b = 0; b < 4; b++) Due.is("tell(" + b + ")", x.tell(b), want[b]);
        for (int b : Edge.beyond(3)) refused("tell(" + b + ")", y -> y.tell(b), -1);
    }

    static void haunt() {
        BarrowNights x = Due.on(Due.FOUR);
        int[] want = {0, 1, 70, 3};
        for (int b = 0; b < 4; b++) Due.is("haunt(" + b + ")", x.haunt(b), want[b]);
        for (int b : Edge.beyond(3)) refused("haunt(" + b + ")", y -> y.haunt(b), -1);
    }

    static void as() {
        int[][] want = {{1, -12, -12}, {1, 1, -12}, {1, 1, 1}, {1, -12, -12}};
        for (int b = 0; b < 4; b++) {
            for (int kind = 0; kind <= 2; kind++) {
                int one = b;
                int taken = kind;
                int fault = want[b][kind] == 1 ? 0 : CAST;
                Edge.still("as(" + b + ", " + kind + ")", Edge::busy, x -> x.as(one, taken), want[b][kind], fault);
            }
        }
        for (int b : Edge.beyond(3)) refusedWithFault("as of " + b, x -> x.as(b, 0), -1);
        for (int kind : Edge.beyond(2)) refusedWithFault("as of kind " + kind, x -> x.as(0, kind), -2);
    }

    static void trace() {
        BarrowNights x = Due.on(Due.FOUR);
        Due.is("no body began", x.trace(), 0);
        Due.is("tell", x.tell(1), 102);
        Due.is("LONG's, ROUND's", x.trace(), 31 * 2 + 1);
        Due.is("haunt", x.haunt(2), 70);
        Due.is("a RING's own", x.trace(), 31 * (31 * 2 + 1) + 5);
        Due.is("it stays", x.trace(), 31 * (31 * 2 + 1) + 5);
    }

    static void fault() {
        BarrowNights x = Edge.busy();
        Due.is("0 ahead of any", new BarrowNights().fault(), 0);
        Due.is("it came to none", x.fault(), 0);
        Due.is("SIZE", x.sheet(0, 0, -1), -14);
        Due.is("the latest", x.fault(), SIZE);
        Due.is("a call that names none", x.night(31), -2);
        Due.is("a call that names none", x.lose(3), 0);
        Due.is("the latest that names one", x.fault(), SIZE);
        Due.is("NULL", x.put(3, 0, 0), -11);
        Due.is("the latest", x.fault(), NULL);
        Due.is("refused", x.put(4, 0, 0), -1);
        Due.is("it was refused", x.fault(), 0);
        Due.is("CAST", x.as(0, 2), -12);
        Due.is("the latest", x.fault(), CAST);
        Due.is("it comes to none", x.as(2, 2), 1);
        Due.is("it came to none", x.fault(), 0);
    }

    static void many() {
        BarrowNights x = Edge.busy();
        Due.is("three lodge", x.lodge(2, 2), 2);
        int[] want = {4, 4, 2, 3, 2};
        for (int what = 0; what <= 4; what++) {
            Due.is("many(" + what + ")", x.many(what), want[what]);
            Due.is("many(" + what + ") without a DOWN", new BarrowNights().many(what), 0);
        }
        for (int what : Edge.beyond(4)) refused("many(" + what + ")", y -> y.many(what), -2);
    }
}

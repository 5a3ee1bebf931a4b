/** Promises 11 to 14: housed, ploughed, way, lain. */
public final class HousedTest {
    public static void main(String[] args) {
        housedMost();
        housedLeastPrice();
        housedFirstRow();
        housedAsAllIsNow();
        housedRefusals();
        ploughed();
        way();
        wayOverBarrows();
        wayRefusals();
        lain();
        lainFirst();
        lainByHolds();
        lainRefusals();
        lainFaults();
        Due.end();
    }

    /** How many, the pence, and the barrow of each walker. */
    private static void housedIs(BarrowNights x, int most, int pence, int... row) {
        Due.is("how many", x.housed(-2), most);
        Due.is("pence", x.housed(-1), pence);
        for (int w = 0; w < 5; w++) Due.is("the barrow of " + w, x.housed(w), w < row.length ? row[w] : -9);
    }

    private static void housedMost() {
        // The first must go to the dear one, so that the second, who can pay but one, is housed too.
        housedIs(Due.on("d;r111;r151,911,111"), 2, 6, 1, 0);
        housedIs(Due.on("d;r119,011"), 0, 0, -9);
        housedIs(Due.on("d;g190,901,901,901"), 2, 18, 0, 0, -9);
        housedIs(Due.on("d;r109;r100,009,001"), 2, 0, 0, 1);
    }

    private static void housedLeastPrice() {
        housedIs(Due.on("d;r190;r110;r120,901,901"), 2, 3, 1, 2);
        housedIs(Due.on("d;r230;l110,901,901,901"), 3, 5, 0, 1, 1);
    }

    private static void housedFirstRow() {
        housedIs(Due.on("d;r110;r110,901,901"), 2, 2, 0, 1);
        housedIs(Due.on("d;r110,901,901"), 1, 1, 0, -9);
        housedIs(Due.on("d;r100;r100;r100;r100;r100,001,001,001,001,001"), 5, 0, 0, 1, 2, 3, 4);
    }

    private static void housedAsAllIsNow() {
        BarrowNights x = Due.on("d;r100;r109,909,901");
        housedIs(x, 2, 0, 1, 0);
        Due.is("lodge", x.lodge(1, 0), 1);
        housedIs(x, 2, 0, 1, 0);
        Due.is("leave", x.leave(1), 0);
        Due.is("lodge", x.lodge(0, 1), 1);
        housedIs(x, 2, 0, 1, 0);
        Due.is("charge", x.charge(1, 9), 0);
        housedIs(x, 2, 9, 1, 0);
        Due.is("earn", x.earn(0, 8), 9);
        housedIs(x, 1, 0, 0, -9);
        BarrowNights y = Due.on("d;r104;r109;r106,054,091");
        housedIs(y, 2, 0, 0, 1);
        Due.is("lodge", y.lodge(0, 1), 1);
        housedIs(y, 2, 0, 2, 1);
        BarrowNights z = Due.on(Due.FOUR);
        Due.is("housed", z.housed(-2), 4);
        Due.is("it changes nothing", z.many(3), 0);
    }

    private static void housedRefusals() {
        BarrowNights x = new BarrowNights();
        Due.is("k -3, no down too", x.housed(-3), -2);
        Due.is("k 5, no down too", x.housed(5), -2);
        for (int k = -2; k < 5; k++) Due.is("no down", x.housed(k), -3);
        BarrowNights y = Due.on(Due.FOUR);
        Due.is("k -3", y.housed(-3), -2);
        Due.is("k 5", y.housed(5), -2);
        Due.is("greatest k", y.housed(Integer.MAX_VALUE), -2);
        Due.is("no such walker", y.housed(4), -9);
    }

    private static void ploughed() {
        BarrowNights x = Due.on("d;r100;l105;g105,005,051,051,051");
        Due.is("housed", x.housed(-2), 4);
        Due.is("without 0", x.ploughed(0), 4);
        Due.is("without 1", x.ploughed(1), 3);
        Due.is("without 2", x.ploughed(2), 3);
        Due.is("without 3", x.ploughed(3), -1);
        Due.is("without -1", x.ploughed(-1), -1);
        Due.is("it is there yet", x.housed(-2), 4);
        Due.is("how many barrows", x.many(0), 3);
        BarrowNights y = Due.on("d;l400,001");
        Due.is("without the only one", y.ploughed(0), 0);
        Due.is("without the only one, lodging there", y.lodge(0, 0), 1);
        Due.is("without it", y.ploughed(0), 0);
        Due.is("no down", new BarrowNights().ploughed(0), -1);
    }

    private static void way() {
        BarrowNights x = Due.on("d;r193,042");
        int[] want = {-9, 1, 0, 0, 0, 0, 0, -9, -9, -9};
        for (int place = 0; place < 10; place++) Due.is("way to " + place, x.way(0, place), want[place]);
    }

    private static void wayOverBarrows() {
        BarrowNights x = Due.on("d;r197;r191;r193;r195;r199,001,009,092,002");
        int[] byOne = {0, 0, 1, -9, -9, -9, -9, -9, -9, -9};
        int[] byTwo = {0, 0, 0, 1, 2, 2, 3, 3, 4, 4};
        int[] byTwoBack = {4, 3, 3, 2, 2, 1, 1, 0, 0, 0};
        for (int place = 0; place < 10; place++) {
            Due.is("way of 0 to " + place, x.way(0, place), byOne[place]);
            Due.is("way of 1 to " + place, x.way(1, place), 0);
            Due.is("way of 2 to " + place, x.way(2, place), byTwoBack[place]);
            Due.is("way of 3 to " + place, x.way(3, place), byTwo[place]);
        }
        BarrowNights y = Due.on("d;r101;r102;r103;r104;r105,001");
        Due.is("five barrows", y.way(0, 6), 5);
        Due.is("no farther", y.way(0, 7), -9);
        Due.is("lodge", y.lodge(0, 0), 1);
        Due.is("from where it is", y.way(0, 6), 4);
        Due.is("it stays", y.ofWalker(0, 1), 1);
    }

    private static void wayRefusals() {
        BarrowNights x = Due.on(Due.FOUR);
        Due.is("walker 4, place too", x.way(4, 10), -1);
        Due.is("walker -1", x.way(-1, 0), -1);
        Due.is("place 10", x.way(0, 10), -2);
        Due.is("place -1", x.way(0, -1), -2);
        Due.is("greatest place", x.way(0, Integer.MAX_VALUE), -2);
        Due.is("least place", x.way(0, Integer.MIN_VALUE), -2);
        Due.is("no down", new BarrowNights().way(0, 0), -1);
    }

    /** How many ways by told dreams, and the barrow of each walker in the first. */
    private static void lainIs(BarrowNights x, int[] dreams, int ways, int... row) {
        Due.row(x, 3, 1, dreams);
        Due.is("how many ways", x.lain(3, 1, 0, -1), ways);
        for (int w = 0; w < 5; w++) Due.is("lain, the barrow of " + w, x.lain(3, 1, 0, w), w < row.length ? row[w] : -9);
    }

    private static void lain() {
        BarrowNights x = Due.on("d;l299;r100,001,001,001");
        lainIs(x, new int[] {10, 0, 1}, 1, 0, 0, 0);
        lainIs(x, new int[] {10, 0, 0}, 0);
        lainIs(x, new int[] {10, 11, 0}, 1, 0, 1, 0);
        lainIs(x, new int[] {11, 0, 99}, 0);
        lainIs(x, new int[] {99, 99, 99}, 1, -9, -9, -9);
        lainIs(x, new int[] {99, 10, 1}, 1, -9, 0, 0);
        lainIs(x, new int[] {99, 0, -9}, 0);
        lainIs(x, new int[] {10, 1, -9}, 0);
        lainIs(x, new int[] {0, -9, -9}, 0);
        lainIs(x, new int[] {12, -9, -9}, 0);
        lainIs(x, new int[] {-1, -9, -9}, 0);
        lainIs(x, new int[] {9, -9, -9}, 0);
        lainIs(x, new int[] {98, -9, -9}, 0);
    }

    private static void lainFirst() {
        BarrowNights x = Due.on("d;l299;r100,001,001,001");
        lainIs(x, new int[] {-9, -9, -9}, 20, 0, 0, 0);
        lainIs(x, new int[] {-9, 10, -9}, 5, 1, 0, 0);
        lainIs(x, new int[] {-9, -9, 10}, 3, 1, -9, 0);
        lainIs(x, new int[] {-9, 99, 11}, 2, 0, -9, 1);
        lainIs(x, new int[] {99, -9, 99}, 3, -9, 0, -9);
        Due.is("it changes nothing", x.many(3), 0);
        BarrowNights y = Due.on("d;l400;l400;l400;l400;l400,001,001,001,001,001");
        lainIs(y, new int[] {-9, -9, -9, -9, -9}, 7776, 0, 0, 0, 0, 0);
        lainIs(y, new int[] {14, -9, -9, -9, 3}, 180, 4, 0, 0, 0, 0);
    }

    private static void lainByHolds() {
        lainIs(Due.on("d;r200,001,001,001"), new int[] {10, 0, 1}, 0);
        lainIs(Due.on("d;g200,001,001,001"), new int[] {10, 0, 1}, 1, 0, 0, 0);
        lainIs(Due.on("d;g100,001,001,001"), new int[] {-9, -9, -9}, 7, 0, 0, -9);
        lainIs(Due.on("d;l100,001,001,001"), new int[] {-9, -9, -9}, 7, 0, 0, -9);
        lainIs(Due.on("d;r100,001,001,001"), new int[] {-9, -9, -9}, 4, 0, -9, -9);
        // Reach, pence, and who lodges now are aside.
        BarrowNights x = Due.on("d;r199;r100,001,001");
        Due.is("lodge", x.lodge(0, 1), 1);
        lainIs(x, new int[] {10, 11}, 1, 0, 1);
        lainIs(x, new int[] {99, 11}, 1, -9, 1);
    }

    private static void lainRefusals() {
        BarrowNights x = Due.on(Due.FOUR);
        Due.row(x, 2, 2, 99, 99, 99, 99, 10);
        Due.makeFault(x);
        Due.faulted(x, "sheet 4, lane too", x.lain(4, 3, 0, 5), -1, 0);
        Due.faulted(x, "sheet -1", x.lain(-1, 2, 0, 0), -1, 0);
        Due.makeFault(x);
        Due.faulted(x, "lane 3", x.lain(2, 3, 0, 0), -2, 0);
        Due.faulted(x, "lane -1", x.lain(2, -1, 0, 0), -2, 0);
        Due.makeFault(x);
        Due.faulted(x, "k 5, cast too", x.lain(2, 1, 0, 5), -2, 0);
        Due.faulted(x, "k -2", x.lain(2, 2, 0, -2), -2, 0);
        BarrowNights y = new BarrowNights();
        Due.makeFault(y);
        Due.faulted(y, "no down, k too", y.lain(2, 2, 0, 5), -2, 0);
        Due.makeFault(y);
        Due.faulted(y, "no down, nothing too", y.lain(2, 2, 0, 0), -3, 0);
        Due.row(y, 2, 2, 99);
        Due.makeFault(y);
        Due.faulted(y, "no down, cast too", y.lain(2, 1, 0, 0), -3, 0);
    }

    private static void lainFaults() {
        BarrowNights x = Due.on(Due.FOUR);
        Due.row(x, 2, 2, 99, 99, 99, 99, 10);
        Due.faulted(x, "another lane, index too", x.lain(2, 1, 9, 0), -12, 2);
        Due.faulted(x, "nothing", x.lain(3, 1, 9, 0), -11, 1);
        Due.faulted(x, "from 2 on", x.lain(2, 2, 2, 0), -13, 3);
        Due.faulted(x, "from -1 on", x.lain(2, 2, -1, 0), -13, 3);
        Due.faulted(x, "from the greatest on", x.lain(2, 2, Integer.MAX_VALUE, 0), -13, 3);
        Due.faulted(x, "from 1 on", x.lain(2, 2, 1, 3), 0, 0);
        Due.faulted(x, "from 0 on", x.lain(2, 2, 0, 3), -9, 0);
    }
}

/** Promises 20 to 24: sheet, lose, put, cell, copy. */
public final class SheetsTest {
    private static final long LOST = Long.MIN_VALUE;

    public static void main(String[] args) {
        sheet();
        sheetRefusals();
        lose();
        put();
        putIsCut();
        putRefusals();
        cell();
        copy();
        copyOverlaps();
        copyRefusals();
        copyFaults();
        Due.end();
    }

    private static void sheet() {
        for (int k = 0; k < 4; k++) {
            for (int lane = 0; lane < 3; lane++) wholeSheet(k, lane);
        }
        BarrowNights x = new BarrowNights();
        for (int k = 0; k < 4; k++) Due.is("sheet", x.sheet(k, 0, 60), 1);
        Due.is("put", x.put(1, 59, 5), 1);
        Due.is("put", x.put(1, 0, 6), 1);
        for (int k = 0; k < 4; k++) {
            Due.is("the last cell of " + k, x.cell(k, 59, 0), k == 1 ? 5 : 0);
            Due.is("the first cell of " + k, x.cell(k, 0, 0), k == 1 ? 6 : 0);
        }
    }

    private static void wholeSheet(int k, int lane) {
        BarrowNights x = new BarrowNights();
        Due.makeFault(x);
        Due.faulted(x, "sheet", x.sheet(k, lane, 60), 1, 0);
        for (int i = 0; i < 60; i++) Due.is("cells are 0", x.cell(k, i, lane), 0);
        for (int i = 0; i < 60; i++) Due.is("put", x.put(k, i, i + 1), 1);
        for (int i = 0; i < 60; i++) Due.is("cell", x.cell(k, i, lane), i + 1);
        Due.is("a shorter one", x.sheet(k, lane, 2), 1);
        Due.is("0 again", x.cell(k, 0, lane), 0);
        Due.is("0 again", x.cell(k, 1, lane), 0);
        Due.is("no more cells", x.cell(k, 2, lane), LOST);
        Due.is("a longer one", x.sheet(k, lane, 60), 1);
        Due.is("0 there too", x.cell(k, 59, lane), 0);
        Due.is("one of another lane", x.sheet(k, (lane + 1) % 3, 3), 1);
        Due.is("it is of that lane", x.cell(k, 2, (lane + 1) % 3), 0);
        Due.faulted(x, "and not of the old one", x.cell(k, 2, lane), LOST, 2);
        Due.is("one of none", x.sheet(k, lane, 0), 1);
        Due.is("it has a row", x.lose(k), 1);
    }

    private static void sheetRefusals() {
        BarrowNights x = new BarrowNights();
        Due.row(x, 1, 1, 7);
        for (int k : new int[] {-1, 4, Integer.MIN_VALUE, Integer.MAX_VALUE}) {
            Due.makeFault(x);
            Due.faulted(x, "no such sheet, all too", x.sheet(k, 3, 61), -1, 0);
        }
        Due.makeFault(x);
        Due.faulted(x, "lane 3, size too", x.sheet(1, 3, -1), -2, 0);
        Due.makeFault(x);
        Due.faulted(x, "lane -1", x.sheet(1, -1, 1), -2, 0);
        Due.makeFault(x);
        Due.faulted(x, "61 cells", x.sheet(1, 0, 61), -2, 0);
        Due.faulted(x, "greatest", x.sheet(1, 0, Integer.MAX_VALUE), -2, 0);
        Due.faulted(x, "-1 cells", x.sheet(1, 0, -1), -14, 4);
        Due.faulted(x, "least", x.sheet(1, 0, Integer.MIN_VALUE), -14, 4);
        Due.is("its row stays", x.cell(1, 0, 1), 7);
    }

    private static void lose() {
        BarrowNights x = new BarrowNights();
        Due.is("it had nothing", x.lose(2), 0);
        Due.row(x, 2, 2, 1, 2, 3);
        Due.row(x, 1, 2, 1, 2, 3);
        Due.is("lose", x.lose(2), 1);
        Due.is("again", x.lose(2), 0);
        Due.faulted(x, "it has nothing", x.put(2, 0, 0), -11, 1);
        Due.is("lose names no fault", x.lose(1), 1);
        Due.is("so fault() stays", x.fault(), 1);
        Due.is("sheet 4", x.lose(4), -1);
        Due.is("sheet -1", x.lose(-1), -1);
        Due.is("fault() stays", x.fault(), 1);
    }

    private static void put() {
        BarrowNights x = new BarrowNights();
        Due.row(x, 0, 2, 1, 2, 3);
        Due.makeFault(x);
        Due.faulted(x, "put", x.put(0, 1, Integer.MIN_VALUE), 1, 0);
        Due.is("the one ahead", x.cell(0, 0, 2), 1);
        Due.is("cell", x.cell(0, 1, 2), Integer.MIN_VALUE);
        Due.is("the one behind", x.cell(0, 2, 2), 3);
    }

    private static void putIsCut() {
        int[] values = {127, 128, 255, 256, -129, 32767, 32768, 65535, 65536, -32769, Integer.MAX_VALUE, Integer.MIN_VALUE, 100, -1};
        BarrowNights x = new BarrowNights();
        for (int lane = 0; lane < 3; lane++) {
            Due.row(x, lane, lane, 0);
            for (int v : values) {
                Due.is("put", x.put(lane, 0, v), 1);
                Due.is("cut to lane " + lane, x.cell(lane, 0, lane), lane == 0 ? (byte) v : lane == 1 ? (short) v : v);
            }
        }
    }

    private static void putRefusals() {
        BarrowNights x = new BarrowNights();
        Due.row(x, 0, 0, 1, 2);
        Due.makeFault(x);
        Due.faulted(x, "sheet 4", x.put(4, 0, 0), -1, 0);
        Due.makeFault(x);
        Due.faulted(x, "sheet -1", x.put(-1, -1, 0), -1, 0);
        Due.faulted(x, "nothing, index too", x.put(1, -1, 0), -11, 1);
        Due.faulted(x, "cell 2", x.put(0, 2, 0), -13, 3);
        Due.faulted(x, "cell -1", x.put(0, -1, 0), -13, 3);
        Due.faulted(x, "greatest cell", x.put(0, Integer.MAX_VALUE, 0), -13, 3);
        Due.faulted(x, "least cell", x.put(0, Integer.MIN_VALUE, 0), -13, 3);
        Due.is("sheet of none", x.sheet(3, 0, 0), 1);
        Due.faulted(x, "cell 0 of none", x.put(3, 0, 0), -13, 3);
        Due.is("cells stay", x.cell(0, 0, 0), 1);
        Due.is("cells stay", x.cell(0, 1, 0), 2);
    }

    private static void cell() {
        BarrowNights x = new BarrowNights();
        Due.row(x, 0, 1, 10, 20);
        Due.makeFault(x);
        Due.faulted(x, "cell", x.cell(0, 1, 1), 20, 0);
        Due.makeFault(x);
        Due.faulted(x, "sheet 4, lane too", x.cell(4, 0, 3), LOST, 0);
        Due.makeFault(x);
        Due.faulted(x, "sheet -1", x.cell(-1, 0, 1), LOST, 0);
        Due.makeFault(x);
        Due.faulted(x, "lane 3, index too", x.cell(0, 9, 3), LOST, 0);
        Due.makeFault(x);
        Due.faulted(x, "lane -1 of nothing", x.cell(1, 0, -1), LOST, 0);
        Due.faulted(x, "another lane, index too", x.cell(0, 9, 0), LOST, 2);
        Due.faulted(x, "another lane", x.cell(0, 0, 2), LOST, 2);
        Due.faulted(x, "nothing is no cast", x.cell(1, 9, 2), LOST, 1);
        Due.faulted(x, "cell 2", x.cell(0, 2, 1), LOST, 3);
        Due.faulted(x, "cell -1", x.cell(0, -1, 1), LOST, 3);
        Due.faulted(x, "greatest cell", x.cell(0, Integer.MAX_VALUE, 1), LOST, 3);
    }

    private static void rowIs(BarrowNights x, int k, int lane, int... want) {
        for (int i = 0; i < want.length; i++) Due.is("cell " + i + " of " + k, x.cell(k, i, lane), want[i]);
        Due.is("its end", x.cell(k, want.length, lane), LOST);
    }

    private static void copy() {
        BarrowNights x = new BarrowNights();
        Due.row(x, 0, 2, 1, 2, 3, 4);
        Due.row(x, 3, 2, 9, 8, 7);
        Due.makeFault(x);
        Due.faulted(x, "copy", x.copy(0, 1, 3, 0, 2), 2, 0);
        rowIs(x, 0, 2, 1, 2, 3, 4);
        rowIs(x, 3, 2, 2, 3, 7);
        Due.is("copy back", x.copy(3, 2, 0, 3, 1), 1);
        rowIs(x, 0, 2, 1, 2, 3, 7);
        Due.is("copy of none", x.copy(0, 4, 3, 3, 0), 0);
        Due.is("all of it", x.copy(3, 0, 0, 0, 3), 3);
        rowIs(x, 0, 2, 2, 3, 7, 7);
    }

    private static void copyOverlaps() {
        for (int lane = 0; lane < 3; lane++) {
            BarrowNights x = new BarrowNights();
            Due.row(x, 0, lane, 1, 2, 3, 4, 5);
            Due.is("to the right", x.copy(0, 0, 0, 1, 4), 4);
            rowIs(x, 0, lane, 1, 1, 2, 3, 4);
            Due.is("to the left", x.copy(0, 2, 0, 0, 3), 3);
            rowIs(x, 0, lane, 2, 3, 4, 3, 4);
            Due.is("onto itself", x.copy(0, 0, 0, 0, 5), 5);
            rowIs(x, 0, lane, 2, 3, 4, 3, 4);
        }
    }

    private static void copyRefusals() {
        BarrowNights x = new BarrowNights();
        Due.row(x, 0, 0, 1, 2, 3);
        for (int k : new int[] {-1, 4, Integer.MIN_VALUE, Integer.MAX_VALUE}) {
            Due.makeFault(x);
            Due.faulted(x, "from no sheet", x.copy(k, 0, 1, 0, -1), -1, 0);
            Due.makeFault(x);
            Due.faulted(x, "to no sheet", x.copy(1, 0, k, 0, -1), -1, 0);
        }
    }

    private static void copyFaults() {
        BarrowNights x = new BarrowNights();
        Due.row(x, 0, 0, 1, 2, 3);
        Due.row(x, 1, 0, 4, 5);
        Due.row(x, 2, 1, 6, 7);
        Due.faulted(x, "from nothing, index too", x.copy(3, -1, 0, 0, 1), -11, 1);
        Due.faulted(x, "to nothing, index too", x.copy(0, -1, 3, 0, 1), -11, 1);
        Due.faulted(x, "nothing to nothing", x.copy(3, 0, 3, 0, 0), -11, 1);
        Due.faulted(x, "unlike lanes, index too", x.copy(0, -1, 2, 0, 1), -12, 2);
        Due.faulted(x, "unlike lanes, none", x.copy(2, 0, 0, 0, 0), -12, 2);
        int[][] beyond = {
            {-1, 0, 1}, {0, -1, 1}, {0, 0, -1}, {3, 0, 1}, {0, 2, 1}, {2, 0, 2}, {0, 1, 2}, {4, 0, 0}, {0, 3, 0}, {-1, 0, 0}, {0, -1, 0},
            {0, 0, 3}, {0, 0, Integer.MAX_VALUE}, {Integer.MAX_VALUE, 0, 1}, {1, 1, Integer.MAX_VALUE}, {0, Integer.MAX_VALUE, 2},
            {0, 0, Integer.MIN_VALUE}, {Integer.MIN_VALUE, 0, 0},
        };
        for (int[] c : beyond) {
            Due.faulted(x, "copy(0, " + c[0] + ", 1, " + c[1] + ", " + c[2] + ")", x.copy(0, c[0], 1, c[1], c[2]), -13, 3);
        }
        rowIs(x, 0, 0, 1, 2, 3);
        rowIs(x, 1, 0, 4, 5);
        Due.is("up to both ends", x.copy(0, 1, 1, 0, 2), 2);
        rowIs(x, 1, 0, 2, 3);
    }
}

/** The edges of promises 20 to 24: a test for each sentence that names one. */
public final class SheetsEdgesTest {
    private static final int[] WRAPPING = {
        0, 1, -1, 127, 128, -128, -129, 255, 256, -256, 32767, 32768, -32768, -32769, 65535, 65536, -65536, Edge.LEAST, Edge.GREATEST,
    };

    public static void main(String[] args) {
        sheetUnknown();
        sheetOutsideLane();
        sheetOutsideCount();
        sheetSize();
        sheetOrder();
        sheetOfEachLength();
        sheetIsNewEachTime();
        sheetLeavesTheOthers();
        lose();
        loseUnknown();
        putUnknown();
        putNull();
        putIndex();
        putOrder();
        putTouchesOneCell();
        putIsCutToTheLane();
        cellUnknownAndOutside();
        cellCastAndNull();
        cellIndex();
        cellOrder();
        copyUnknown();
        copyNull();
        copyCast();
        copyIndex();
        copyRowsOfNoCells();
        copyWholeRows();
        copyOrder();
        copyOfNone();
        copyOntoItself();
        copyKeepsTheOthers();
        Due.end();
    }

    /** The cells of a sheet, all of them. */
    private static void rowIs(BarrowNights x, int k, int lane, int... want) {
        for (int i = 0; i < want.length; i++) Due.is("cell " + i + " of " + k, x.cell(k, i, lane), want[i]);
        Due.is("behind its end", x.cell(k, want.length, lane), Edge.LOST);
        Due.is("the fault there", x.fault(), 3);
    }

    /** Sheets 0 and 1 of bytes, 5 and 3 long, sheet 2 of 4 ints, sheet 3 of nothing. */
    private static BarrowNights rows() {
        BarrowNights x = new BarrowNights();
        Due.row(x, 0, 0, 1, 2, 3, 4, 5);
        Due.row(x, 1, 0, 6, 7, 8);
        Due.row(x, 2, 2, 9, 10, 11, 12);
        return x;
    }

    private static BarrowNights emptyRows() {
        BarrowNights x = rows();
        Due.is("a row of 0 cells", x.sheet(1, 0, 0), 1);
        Due.is("another", x.sheet(3, 0, 0), 1);
        return x;
    }

    // ---- promise 20

    private static void sheetUnknown() {
        for (int k : Edge.beyond(3)) Edge.still("sheet " + k, Edge::busy, x -> x.sheet(k, 0, 1), -1, 0);
        for (int k = 0; k <= 3; k++) {
            BarrowNights x = Edge.busy();
            Due.makeFault(x);
            Due.is("sheet " + k, x.sheet(k, 1, 2), 1);
            Due.is("fault() behind it", x.fault(), 0);
            rowIs(x, k, 1, 0, 0);
        }
    }

    private static void sheetOutsideLane() {
        for (int lane : Edge.beyond(2)) Edge.still("a sheet of lane " + lane, Edge::busy, x -> x.sheet(1, lane, 1), -2, 0);
        for (int lane = 0; lane <= 2; lane++) {
            BarrowNights x = Edge.busy();
            Due.is("a sheet of lane " + lane, x.sheet(3, lane, 1), 1);
            rowIs(x, 3, lane, 0);
        }
    }

    /** "n above 60" */
    private static void sheetOutsideCount() {
        for (int n : new int[] {61, 62, 1000, Edge.GREATEST}) Edge.still(n + " cells", Edge::busy, x -> x.sheet(1, 0, n), -2, 0);
    }

    /** "a length below 0" */
    private static void sheetSize() {
        for (int n : new int[] {-1, -2, -60, Edge.LEAST}) Edge.faults(n + " cells", Edge::busy, x -> x.sheet(1, 0, n), 4);
    }

    private static void sheetOrder() {
        Edge.still("UNKNOWN ahead of OUTSIDE: lane", Edge::busy, x -> x.sheet(4, 3, 0), -1, 0);
        Edge.still("UNKNOWN ahead of OUTSIDE: n", Edge::busy, x -> x.sheet(4, 0, 61), -1, 0);
        Edge.still("UNKNOWN ahead of SIZE", Edge::busy, x -> x.sheet(-1, 0, -1), -1, 0);
        Edge.still("OUTSIDE: lane ahead of SIZE", Edge::busy, x -> x.sheet(0, 3, -1), -2, 0);
        Edge.still("OUTSIDE: lane ahead of SIZE", Edge::busy, x -> x.sheet(0, -1, Edge.LEAST), -2, 0);
    }

    /** "a row of 0 .. 60 numbers (0 at first)" */
    private static void sheetOfEachLength() {
        for (int n = 0; n <= 60; n++) {
            for (int lane = 0; lane <= 2; lane++) {
                BarrowNights x = new BarrowNights();
                Due.is("a row of " + n, x.sheet(2, lane, n), 1);
                rowIs(x, 2, lane, new int[n]);
                if (n > 0) Due.is("its last cell", x.put(2, n - 1, 1), 1);
                Due.is("no further one", x.put(2, n, 1), -13);
            }
        }
    }

    private static void sheetIsNewEachTime() {
        for (int lane = 0; lane <= 2; lane++) {
            BarrowNights x = new BarrowNights();
            int[] full = new int[60];
            for (int i = 0; i < 60; i++) full[i] = i + 1;
            Due.row(x, 3, lane, full);
            Due.is("as long", x.sheet(3, lane, 60), 1);
            rowIs(x, 3, lane, new int[60]);
            Due.row(x, 3, lane, full);
            Due.is("of none", x.sheet(3, lane, 0), 1);
            rowIs(x, 3, lane);
            Due.is("of 60 again", x.sheet(3, lane, 60), 1);
            rowIs(x, 3, lane, new int[60]);
            Due.is("of another lane", x.sheet(3, 2 - lane, 1), 1);
            Due.is("lose", x.lose(3), 1);
            Due.is("of 2 behind nothing", x.sheet(3, lane, 2), 1);
            rowIs(x, 3, lane, 0, 0);
        }
    }

    private static void sheetLeavesTheOthers() {
        for (int k = 0; k <= 3; k++) {
            BarrowNights x = new BarrowNights();
            for (int other = 0; other <= 3; other++) Due.row(x, other, 1, other + 1, other + 2);
            Due.is("a new one", x.sheet(k, 2, 60), 1);
            for (int i = 0; i < 60; i++) x.put(k, i, 99);
            for (int other = 0; other <= 3; other++) {
                if (other != k) rowIs(x, other, 1, other + 1, other + 2);
            }
        }
    }

    // ---- promise 21

    /** "1; 0: it had nothing": a row of 0 cells is a row */
    private static void lose() {
        for (int k = 0; k <= 3; k++) {
            BarrowNights x = emptyRows();
            Due.makeFault(x);
            Due.is("lose " + k, x.lose(k), 1);
            Due.is("fault() stays", x.fault(), 4);
            Due.is("again", x.lose(k), 0);
            Due.is("fault() stays", x.fault(), 4);
            Due.is("it has nothing", x.put(k, 0, 0), -11);
            for (int other = 0; other <= 3; other++) {
                if (other != k) Due.is("the others have theirs", x.lose(other), 1);
            }
        }
        Edge.still("it had nothing", Edge::busy, x -> x.lose(3), 0);
    }

    private static void loseUnknown() {
        for (int k : Edge.beyond(3)) Edge.still("lose " + k, Edge::busy, x -> x.lose(k), -1);
    }

    // ---- promise 22

    private static void putUnknown() {
        for (int k : Edge.beyond(3)) Edge.still("put to " + k, Edge::busy, x -> x.put(k, 0, 1), -1, 0);
    }

    private static void putNull() {
        Edge.faults("put to nothing", Edge::busy, x -> x.put(3, 0, 1), 1);
    }

    private static void putIndex() {
        for (int i : Edge.beyond(4)) Edge.faults("put to cell " + i + " of 5", SheetsEdgesTest::rows, x -> x.put(0, i, 1), 3);
        for (int i : Edge.beyond(-1)) Edge.faults("put to cell " + i + " of none", SheetsEdgesTest::emptyRows, x -> x.put(1, i, 1), 3);
        for (int i : new int[] {0, 4}) {
            BarrowNights x = rows();
            Due.makeFault(x);
            Due.is("put to cell " + i, x.put(0, i, 77), 1);
            Due.is("fault() behind it", x.fault(), 0);
            Due.is("the cell", x.cell(0, i, 0), 77);
        }
        BarrowNights x = new BarrowNights();
        Due.is("60 cells", x.sheet(3, 2, 60), 1);
        Due.is("the last", x.put(3, 59, 7), 1);
        Due.is("one further", x.put(3, 60, 7), -13);
    }

    private static void putOrder() {
        Edge.still("UNKNOWN ahead of INDEX", Edge::busy, x -> x.put(4, -1, 1), -1, 0);
        Edge.faults("NULL ahead of INDEX", Edge::busy, x -> x.put(3, -1, 1), 1);
        Edge.faults("NULL ahead of INDEX", Edge::busy, x -> x.put(3, 60, 1), 1);
    }

    private static void putTouchesOneCell() {
        for (int i = 0; i < 5; i++) {
            BarrowNights x = rows();
            Due.is("put", x.put(0, i, -9), 1);
            int[] want = {1, 2, 3, 4, 5};
            want[i] = -9;
            rowIs(x, 0, 0, want);
            rowIs(x, 1, 0, 6, 7, 8);
            rowIs(x, 2, 2, 9, 10, 11, 12);
        }
    }

    /** "what comes to a cell of it is cut to its LANE" */
    private static void putIsCutToTheLane() {
        BarrowNights x = new BarrowNights();
        for (int lane = 0; lane <= 2; lane++) Due.is("a sheet", x.sheet(lane, lane, 1), 1);
        for (int v : WRAPPING) {
            for (int lane = 0; lane <= 2; lane++) Due.is("put " + v, x.put(lane, 0, v), 1);
            Due.is("byte of " + v, x.cell(0, 0, 0), (byte) v);
            Due.is("short of " + v, x.cell(1, 0, 1), (short) v);
            Due.is("int of " + v, x.cell(2, 0, 2), v);
        }
    }

    // ---- promise 23

    private static void cellUnknownAndOutside() {
        for (int k : Edge.beyond(3)) Edge.still("cell of sheet " + k, Edge::busy, x -> x.cell(k, 0, 0), Edge.LOST, 0);
        for (int lane : Edge.beyond(2)) Edge.still("cell by lane " + lane, Edge::busy, x -> x.cell(0, 0, lane), Edge.LOST, 0);
    }

    /** "CAST (nothing is no CAST), NULL" */
    private static void cellCastAndNull() {
        Edge.castsAndNulls("cell", (x, k, lane) -> x.cell(k, 0, lane), true);
        long[] want = {'d', 300, 70000};
        for (int sheet = 0; sheet < 3; sheet++) {
            int k = sheet;
            Edge.still("cell of " + k + " as of its lane", Edge::busy, x -> x.cell(k, 0, k), want[k], 0);
        }
    }

    private static void cellIndex() {
        for (int i : Edge.beyond(4)) Edge.still("cell " + i + " of 5", SheetsEdgesTest::rows, x -> x.cell(0, i, 0), Edge.LOST, 3);
        for (int i : Edge.beyond(-1)) Edge.still("cell " + i + " of none", SheetsEdgesTest::emptyRows, x -> x.cell(1, i, 0), Edge.LOST, 3);
        Edge.still("the first cell", SheetsEdgesTest::rows, x -> x.cell(0, 0, 0), 1, 0);
        Edge.still("the last cell", SheetsEdgesTest::rows, x -> x.cell(0, 4, 0), 5, 0);
    }

    private static void cellOrder() {
        Edge.still("UNKNOWN ahead of OUTSIDE", Edge::busy, x -> x.cell(4, 0, 3), Edge.LOST, 0);
        Edge.still("UNKNOWN ahead of INDEX", Edge::busy, x -> x.cell(4, -1, 0), Edge.LOST, 0);
        Edge.still("OUTSIDE ahead of NULL", Edge::busy, x -> x.cell(3, 0, 3), Edge.LOST, 0);
        Edge.still("OUTSIDE ahead of INDEX", Edge::busy, x -> x.cell(0, -1, -1), Edge.LOST, 0);
        Edge.still("CAST ahead of INDEX", Edge::busy, x -> x.cell(0, -1, 1), Edge.LOST, 2);
        Edge.still("CAST ahead of INDEX", Edge::busy, x -> x.cell(0, 60, 2), Edge.LOST, 2);
        Edge.still("CAST ahead of INDEX, of a row of 0 cells", SheetsEdgesTest::emptyRows, x -> x.cell(1, 0, 2), Edge.LOST, 2);
        Edge.still("NULL ahead of INDEX", Edge::busy, x -> x.cell(3, -1, 1), Edge.LOST, 1);
    }

    // ---- promise 24

    private static void copyUnknown() {
        for (int k : Edge.beyond(3)) {
            Edge.still("copy of " + k, Edge::busy, x -> x.copy(k, 0, 0, 0, 1), -1, 0);
            Edge.still("copy to " + k, Edge::busy, x -> x.copy(0, 0, k, 0, 1), -1, 0);
            Edge.still("copy of and to " + k, Edge::busy, x -> x.copy(k, 0, k, 0, 1), -1, 0);
        }
    }

    /** "NULL (the first, the other)" */
    private static void copyNull() {
        Edge.faults("copy of nothing", SheetsEdgesTest::rows, x -> x.copy(3, 0, 0, 0, 1), 1);
        Edge.faults("copy to nothing", SheetsEdgesTest::rows, x -> x.copy(0, 0, 3, 0, 1), 1);
        Edge.faults("copy of nothing to nothing", SheetsEdgesTest::rows, x -> x.copy(3, 0, 3, 0, 1), 1);
        Edge.faults("copy of none of nothing", SheetsEdgesTest::rows, x -> x.copy(3, 0, 0, 0, 0), 1);
    }

    /** "CAST (unlike LANES)" */
    private static void copyCast() {
        for (int sheet = 0; sheet < 3; sheet++) {
            for (int to = 0; to < 3; to++) {
                int k = sheet;
                int other = to;
                if (k == other) continue;
                Edge.faults("copy of " + k + " to " + other, Edge::busy, x -> x.copy(k, 0, other, 0, 1), 2);
                Edge.faults("copy of none of " + k + " to " + other, Edge::busy, x -> x.copy(k, 0, other, 0, 0), 2);
            }
        }
    }

    /** "i, j, n below 0 or beyond": of 5 cells to 3 */
    private static void copyIndex() {
        int big = Edge.GREATEST;
        int[][] beyond = {
            {-1, 0, 1}, {-1, 0, 0}, {5, 0, 1}, {6, 0, 0}, {4, 0, 2}, {3, 0, 3}, {Edge.LEAST, 0, 1}, {big, 0, 1}, {big, 0, 0},
            {0, -1, 1}, {0, -1, 0}, {0, 3, 1}, {0, 4, 0}, {0, 2, 2}, {0, 1, 3}, {0, Edge.LEAST, 1}, {0, big, 1}, {0, big, 0},
            {0, 0, -1}, {0, 0, 4}, {0, 0, 6}, {0, 0, Edge.LEAST}, {0, 0, big}, {1, 0, big}, {0, 1, big}, {1, 1, big}, {big, big, big},
            {big, big, 2}, {5, 3, -1}, {5, 3, Edge.LEAST}, {1, 1, -1},
        };
        for (int[] c : beyond) {
            String call = "copy(0, " + c[0] + ", 1, " + c[1] + ", " + c[2] + ")";
            Edge.faults(call, SheetsEdgesTest::rows, x -> x.copy(0, c[0], 1, c[1], c[2]), 3);
        }
        BarrowNights x = rows();
        Due.makeFault(x);
        Due.is("up to both ends", x.copy(0, 2, 1, 0, 3), 3);
        Due.is("fault() behind it", x.fault(), 0);
        rowIs(x, 1, 0, 3, 4, 5);
        Due.is("the last to the last", x.copy(0, 4, 1, 2, 1), 1);
        Due.is("the first to the first", x.copy(0, 0, 1, 0, 1), 1);
        rowIs(x, 1, 0, 1, 4, 5);
    }

    private static void copyRowsOfNoCells() {
        Edge.still("none of a row of 0 cells", SheetsEdgesTest::emptyRows, x -> x.copy(1, 0, 3, 0, 0), 0, 0);
        Edge.faults("a cell of it", SheetsEdgesTest::emptyRows, x -> x.copy(1, 0, 0, 0, 1), 3);
        Edge.faults("a cell to it", SheetsEdgesTest::emptyRows, x -> x.copy(0, 0, 1, 0, 1), 3);
        Edge.faults("from 1 on", SheetsEdgesTest::emptyRows, x -> x.copy(1, 1, 3, 0, 0), 3);
        Edge.faults("to 1 on", SheetsEdgesTest::emptyRows, x -> x.copy(1, 0, 3, 1, 0), 3);
    }

    private static void copyWholeRows() {
        for (int lane = 0; lane <= 2; lane++) {
            BarrowNights x = new BarrowNights();
            int[] full = new int[60];
            for (int i = 0; i < 60; i++) full[i] = 60 - i;
            Due.row(x, 3, lane, full);
            Due.is("60 cells", x.sheet(0, lane, 60), 1);
            Due.is("copy of all", x.copy(3, 0, 0, 0, 60), 60);
            rowIs(x, 0, lane, full);
            rowIs(x, 3, lane, full);
            Due.is("61 cells", x.copy(3, 0, 0, 0, 61), -13);
            Due.is("60 from 1 on", x.copy(3, 1, 0, 0, 60), -13);
            Due.is("60 to 1 on", x.copy(3, 0, 0, 1, 60), -13);
        }
    }

    private static void copyOrder() {
        Edge.still("UNKNOWN ahead of NULL", Edge::busy, x -> x.copy(3, 0, 4, 0, 0), -1, 0);
        Edge.still("UNKNOWN ahead of NULL", Edge::busy, x -> x.copy(-1, 0, 3, 0, 0), -1, 0);
        Edge.still("UNKNOWN ahead of INDEX", Edge::busy, x -> x.copy(0, -1, 4, 0, -1), -1, 0);
        Edge.faults("NULL ahead of INDEX", Edge::busy, x -> x.copy(3, -1, 0, 0, 0), 1);
        Edge.faults("NULL ahead of INDEX", Edge::busy, x -> x.copy(0, -1, 3, -1, -1), 1);
        Edge.faults("CAST ahead of INDEX: i", Edge::busy, x -> x.copy(0, -1, 1, 0, 0), 2);
        Edge.faults("CAST ahead of INDEX: j", Edge::busy, x -> x.copy(1, 0, 2, 60, 0), 2);
        Edge.faults("CAST ahead of INDEX: n", Edge::busy, x -> x.copy(2, 0, 0, 0, -1), 2);
    }

    private static void copyOfNone() {
        Edge.still("none from the end on, to the end", SheetsEdgesTest::rows, x -> x.copy(0, 5, 1, 3, 0), 0, 0);
        Edge.still("none from 0 on, to 0", SheetsEdgesTest::rows, x -> x.copy(0, 0, 1, 0, 0), 0, 0);
        Edge.still("none onto itself", SheetsEdgesTest::rows, x -> x.copy(2, 4, 2, 0, 0), 0, 0);
    }

    /** "perhaps the same", "as they were" */
    private static void copyOntoItself() {
        for (int i = 0; i <= 5; i++) {
            for (int j = 0; j <= 5; j++) {
                for (int n = 0; n <= 5; n++) overlap(i, j, n);
            }
        }
    }

    private static void overlap(int i, int j, int n) {
        BarrowNights x = rows();
        boolean fits = i + n <= 5 && j + n <= 5;
        int[] want = {1, 2, 3, 4, 5};
        if (fits) System.arraycopy(new int[] {1, 2, 3, 4, 5}, i, want, j, n);
        Due.is("copy(0, " + i + ", 0, " + j + ", " + n + ")", x.copy(0, i, 0, j, n), fits ? n : -13);
        rowIs(x, 0, 0, want);
    }

    private static void copyKeepsTheOthers() {
        BarrowNights x = rows();
        Due.is("copy", x.copy(0, 1, 1, 1, 2), 2);
        rowIs(x, 0, 0, 1, 2, 3, 4, 5);
        rowIs(x, 1, 0, 6, 2, 3);
        rowIs(x, 2, 2, 9, 10, 11, 12);
        Due.is("it is a copy", x.put(0, 1, 99), 1);
        rowIs(x, 1, 0, 6, 2, 3);
    }
}

/** The edges of promises 11 to 14: a test for each sentence that names one. */
public final class HousedEdgesTest {
    public static void main(String[] args) {
        housedOutside();
        housedState();
        housedNobody();
        housedByReach();
        housedByMeans();
        housedByRoom();
        housedAsIfNobodyLodged();
        housedFromWhereItIs();
        housedMostAheadOfPence();
        housedFewestPence();
        housedFirstRow();
        housedNoSuchWalker();
        ploughedUnknown();
        ploughedTheOnlyOne();
        ploughedOthersStay();
        wayUnknown();
        wayOutside();
        wayOfNone();
        wayByReach();
        wayByTheMostBarrows();
        wayWhateverTheyAskAndHold();
        wayFromWhereItIs();
        lainUnknown();
        lainOutsideLane();
        lainOutsideWalker();
        lainState();
        lainCastAndNull();
        lainIndex();
        lainRowOfNoCells();
        lainRowOfSixtyCells();
        lainOrder();
        lainToldDreams();
        lainDreamsAreNotCut();
        lainByRoom();
        lainAny();
        lainNoWay();
        lainFirstRow();
        lainReachPenceLodgersAside();
        Due.end();
    }

    // ---- promise 11

    private static void housedOutside() {
        for (int k : new int[] {-3, 5, -4, 6, Edge.LEAST, Edge.GREATEST}) Edge.still("housed(" + k + ")", Edge::busy, x -> x.housed(k), -2);
        // From 6, 1, 1 and 2 with 3, 3, 8 and 0 MEANS: one pays 1 in the LONG one, the others lie in the RING for nothing.
        int[] want = {4, 1, 1, 2, 2, 2, -9};
        for (int asked = -2; asked <= 4; asked++) {
            int k = asked;
            Edge.still("housed(" + k + ")", Edge::busy, x -> x.housed(k), want[k + 2]);
        }
    }

    private static void housedState() {
        for (int asked = -2; asked <= 4; asked++) {
            int k = asked;
            Edge.still("no DOWN, housed(" + k + ")", BarrowNights::new, x -> x.housed(k), -3);
        }
        Edge.still("OUTSIDE ahead of STATE", BarrowNights::new, x -> x.housed(-3), -2);
        Edge.still("OUTSIDE ahead of STATE", BarrowNights::new, x -> x.housed(5), -2);
    }

    /** How many, the PENCE, and the BARROW of each WALKER. */
    private static void housed(String text, int many, int pence, int... row) {
        housed(Due.on(text), text, many, pence, row);
    }

    private static void housed(BarrowNights x, String of, int many, int pence, int... row) {
        Due.is("how many of " + of, x.housed(-2), many);
        Due.is("PENCE of " + of, x.housed(-1), pence);
        for (int w = 0; w < 5; w++) Due.is("BARROW of " + w + " of " + of, x.housed(w), w < row.length ? row[w] : -9);
    }

    private static void housedNobody() {
        housed("d;r119,901", 0, 0, -9);
        housed("d;r190,801", 0, 0, -9);
        housed("d;r190;l499,001,001,001,001,001", 0, 0, -9, -9, -9, -9, -9);
    }

    private static void housedByReach() {
        for (int reach = 1; reach <= 9; reach++) {
            for (int place = 0; place <= 9; place++) {
                for (int there = 0; there <= 9; there++) {
                    boolean far = Math.abs(place - there) > reach;
                    housed("d;r10" + there + ",0" + place + reach, far ? 0 : 1, 0, far ? -9 : 0);
                }
            }
        }
    }

    private static void housedByMeans() {
        for (int pence = 0; pence <= 9; pence++) {
            for (int means = 0; means <= 9; means++) {
                boolean dear = pence > means;
                housed("d;r1" + pence + "0," + means + "01", dear ? 0 : 1, dear ? 0 : pence, dear ? -9 : 0);
            }
        }
    }

    /** "so that no BARROW has more than it HOLDS" */
    private static void housedByRoom() {
        for (int beds = 1; beds <= 4; beds++) {
            housedIn("d;r" + beds + "10", beds);
            housedIn("d;l" + beds + "10", 2 * beds);
            housedIn("d;g" + beds + "10", beds + 1);
        }
    }

    private static void housedIn(String barrow, int holds) {
        int[] row = new int[5];
        for (int w = 0; w < 5; w++) row[w] = w < holds ? 0 : -9;
        housed(barrow + ",901,901,901,901,901", Math.min(holds, 5), Math.min(holds, 5), row);
    }

    /** "as if nobody lodged" */
    private static void housedAsIfNobodyLodged() {
        BarrowNights x = Due.on("d;r110,901,901");
        Due.is("the second lodges in the only bed", x.lodge(1, 0), 1);
        housed(x, "a full one", 1, 1, 0, -9);
        Due.is("who lodges stays", x.ofBarrow(0, 5), 2);
    }

    /** "each from the PLACE where it is", "as all is now" */
    private static void housedFromWhereItIs() {
        BarrowNights x = Due.on("d;r104;r109,054");
        housed(x, "at 5", 1, 0, 0);
        Due.is("lodge", x.lodge(0, 1), 1);
        housed(x, "at 9, too far by 1", 1, 0, 1);
        Due.is("dearer now", x.charge(1, 1), 0);
        housed(x, "at 9, without means", 0, 0, -9);
        Due.is("just enough", x.earn(0, 1), 0);
        housed(x, "at 9, with a penny", 1, 1, 1);
    }

    private static void housedMostAheadOfPence() {
        housed("d;r100;r190,901,001", 2, 9, 1, 0);
        housed("d;r100;r100;r199,009,009,909", 3, 9, 0, 1, 2);
    }

    private static void housedFewestPence() {
        housed("d;r190;r180,901", 1, 8, 1);
        housed("d;r120;r110;r130,901,901", 2, 3, 0, 1);
        housed("d;r190;r180;r170;r160;r150,901,901,901,901,901", 5, 35, 0, 1, 2, 3, 4);
        housed("d;r190;r180;r170;r160;r150,901,901,901", 3, 18, 2, 3, 4);
        housed("d;l490;g400,901,901,901,901,901", 5, 0, 1, 1, 1, 1, 1);
        // The one who is left out is the one who would pay more.
        housed("d;r190;r110,901,101,901", 2, 10, 0, 1, -9);
    }

    /** "of several the first as a row", "none is told as the number of BARROWS": so none comes last. */
    private static void housedFirstRow() {
        housed("d;r110;r110,901", 1, 1, 0);
        housed("d;r100;r100,001,001", 2, 0, 0, 1);
        housed("d;r110,901,901,901,901,901", 1, 1, 0, -9, -9, -9, -9);
        housed("d;r100;r100;l200,001,001,001,001,001", 5, 0, 0, 1, 2, 2, 2);
    }

    /** "NONE: it has none, there is no such WALKER" */
    private static void housedNoSuchWalker() {
        for (int many = 1; many <= 5; many++) {
            BarrowNights x = Due.on("d;l400" + ",001".repeat(many));
            for (int w = 0; w < 5; w++) Due.is("BARROW of " + w + " of " + many, x.housed(w), w < many ? 0 : -9);
        }
        // A down of fewer WALKERS behind one of more.
        BarrowNights x = Due.on("d;l400,001,001,001,001,001");
        Due.is("the last of five", x.housed(4), 0);
        Due.is("fewer", Due.tellDown(x, "d;l400,001"), 1);
        for (int w = 1; w < 5; w++) Due.is("no WALKER " + w, x.housed(w), -9);
    }

    // ---- promise 12

    private static void ploughedUnknown() {
        for (int b : Edge.beyond(3)) Edge.still("ploughed(" + b + ")", Edge::busy, x -> x.ploughed(b), -1);
        int[] want = {4, 4, 2, 4};
        for (int b = 0; b < 4; b++) {
            int gone = b;
            Edge.still("ploughed(" + b + ")", Edge::busy, x -> x.ploughed(gone), want[b]);
        }
        Edge.still("no DOWN", BarrowNights::new, x -> x.ploughed(0), -1);
        BarrowNights x = Due.on("d;r100;r100;r100;r100;r100,001,001,001,001,001");
        for (int b = 0; b < 5; b++) Due.is("one bed of five less", x.ploughed(b), 4);
        Due.is("no sixth", x.ploughed(5), -1);
    }

    private static void ploughedTheOnlyOne() {
        BarrowNights x = Due.on("d;l400,001,001,001,001,001");
        Due.is("nobody is housed without it", x.ploughed(0), 0);
        Due.is("they lodge there", x.lodge(0, 0), 1);
        Due.is("nobody is housed without it", x.ploughed(0), 0);
        Due.is("it is there yet", x.housed(-2), 5);
    }

    private static void ploughedOthersStay() {
        BarrowNights x = Due.on("d;g100;r100,001,001,001,001");
        Due.is("of three beds", x.housed(-2), 3);
        Due.is("without the RING", x.ploughed(0), 1);
        Due.is("without the ROUND one", x.ploughed(1), 2);
        BarrowNights y = Due.on("d;r100;r109,001");
        Due.is("too far for the other", y.ploughed(0), 0);
        Due.is("not needed", y.ploughed(1), 1);
    }

    // ---- promise 13

    private static void wayUnknown() {
        for (int w : Edge.beyond(3)) Edge.still("way of " + w, Edge::busy, x -> x.way(w, 0), -1);
        for (int w : Edge.beyond(3)) Edge.still("UNKNOWN ahead of OUTSIDE", Edge::busy, x -> x.way(w, 10), -1);
        Edge.still("way of the last", Edge::busy, x -> x.way(3, 2), 0);
    }

    private static void wayOutside() {
        for (int place : Edge.beyond(9)) Edge.still("way to " + place, Edge::busy, x -> x.way(0, place), -2);
        // From 6 with a REACH of 3, over 4, 6, 1 and 0.
        int[] want = {2, 1, 1, 0, 0, 0, 0, 0, 0, 0};
        for (int place = 0; place <= 9; place++) {
            int to = place;
            Edge.still("way to " + place, Edge::busy, x -> x.way(0, to), want[place]);
        }
    }

    /** "from where it is, if there is none": no farther than REACH, 0 BARROWS are enough. */
    private static void wayOfNone() {
        for (int reach = 1; reach <= 9; reach++) {
            for (int from = 0; from <= 9; from++) {
                BarrowNights x = Due.on("d;r10" + from + ",0" + from + reach);
                for (int to = 0; to <= 9; to++) {
                    Due.is("way from " + from + " to " + to + ", REACH " + reach, x.way(0, to), Math.abs(from - to) <= reach ? 0 : -9);
                }
            }
        }
    }

    /** "none farther than REACH from the one ahead", "the PLACE is no farther than REACH from the last one" */
    private static void wayByReach() {
        for (int reach = 1; reach <= 4; reach++) {
            BarrowNights near = Due.on("d;r10" + reach + ",00" + reach);
            Due.is("twice REACH", near.way(0, 2 * reach), 1);
            Due.is("and 1 more", near.way(0, 2 * reach + 1), -9);
            BarrowNights far = Due.on("d;r10" + (reach + 1) + ",00" + reach);
            Due.is("the BARROW is too far by 1", far.way(0, 2 * reach), -9);
            Due.is("it is not needed", far.way(0, reach), 0);
        }
        BarrowNights back = Due.on("d;r106;r103,092");
        Due.is("the first is too far by 1", back.way(0, 6), -9);
        BarrowNights on = Due.on("d;r103;r106,093");
        Due.is("over 6 and 3 to 0", on.way(0, 0), 2);
        Due.is("over 6 to 3", on.way(0, 3), 1);
    }

    private static void wayByTheMostBarrows() {
        BarrowNights x = Due.on("d;r105;r104;r103;r102;r101,001");
        int[] want = {0, 0, 1, 2, 3, 4, 5, -9, -9, -9};
        for (int to = 0; to <= 9; to++) Due.is("way to " + to, x.way(0, to), want[to]);
        BarrowNights gap = Due.on("d;r105;r104;r103;r102;r102,001");
        for (int to = 0; to <= 9; to++) Due.is("way over a gap to " + to, gap.way(0, to), to < 2 ? 0 : -9);
        BarrowNights same = Due.on("d;r101;r101;r101;r101;r101,001");
        Due.is("five at one PLACE go no farther", same.way(0, 3), -9);
        Due.is("than one", same.way(0, 2), 1);
    }

    /** "Whatever they ask, HOLD" */
    private static void wayWhateverTheyAskAndHold() {
        BarrowNights x = Due.on("d;r192,922,002");
        Due.is("it is full", x.lodge(0, 0), 1);
        Due.is("full, and too dear", x.lodge(1, 0), -3);
        Due.is("the way is free", x.way(1, 4), 1);
    }

    private static void wayFromWhereItIs() {
        BarrowNights x = Due.on("d;r102;r104,002");
        Due.is("from 0", x.way(0, 6), 2);
        Due.is("lodge", x.lodge(0, 0), 1);
        Due.is("from 2, lodging", x.way(0, 6), 1);
        Due.is("back", x.way(0, 0), 0);
        Due.is("leave", x.leave(0), 0);
        Due.is("from 2, still", x.way(0, 6), 1);
    }

    // ---- promise 14

    /** The busy down (four BARROWS, four WALKERS), with dreams on sheet 3, as ints. */
    private static Edge.Made told(int... dreams) {
        return () -> {
            BarrowNights x = Edge.busy();
            Due.row(x, 3, 2, dreams);
            return x;
        };
    }

    private static Edge.Made cold() {
        return told(99, 99, 99, 99, 10);
    }

    private static void lainUnknown() {
        for (int k : Edge.beyond(3)) Edge.still("lain by sheet " + k, Edge::busy, x -> x.lain(k, 0, 0, 0), -1, 0);
        for (int k = 0; k <= 3; k++) {
            BarrowNights x = Edge.busy();
            Due.row(x, k, 1, 99, 99, 99, 13);
            Due.is("lain by sheet " + k, x.lain(k, 1, 0, 3), 3);
        }
    }

    private static void lainOutsideLane() {
        for (int lane : Edge.beyond(2)) Edge.still("lain by lane " + lane, cold(), x -> x.lain(3, lane, 0, 0), -2, 0);
        for (int lane = 0; lane <= 2; lane++) {
            BarrowNights x = Edge.busy();
            Due.row(x, 3, lane, 99, -9, 99, 13);
            Due.is("lain by lane " + lane, x.lain(3, lane, 0, -1), 4);
        }
    }

    private static void lainOutsideWalker() {
        for (int k : new int[] {-2, 5, -3, 6, Edge.LEAST, Edge.GREATEST}) Edge.still("lain, k " + k, cold(), x -> x.lain(3, 2, 0, k), -2, 0);
        int[] want = {1, -9, -9, -9, 0, -9};
        for (int asked = -1; asked <= 4; asked++) {
            int k = asked;
            Edge.still("lain, k " + k, cold(), x -> x.lain(3, 2, 1, k), want[k + 1], 0);
        }
    }

    private static BarrowNights noDown() {
        BarrowNights x = new BarrowNights();
        Due.row(x, 1, 1, 99, 99, 99, 99, 99);
        return x;
    }

    private static void lainState() {
        for (int asked = -1; asked <= 4; asked++) {
            int k = asked;
            Edge.still("no DOWN, k " + k, HousedEdgesTest::noDown, x -> x.lain(1, 1, 0, k), -3, 0);
        }
    }

    private static void lainCastAndNull() {
        Edge.castsAndNulls("lain", (x, k, lane) -> x.lain(k, lane, 0, 0), false);
    }

    /** "cells of a SHEET from i on, one for each WALKER" */
    private static void lainIndex() {
        for (int from : new int[] {-1, 2, 3, 4, 5, 6, Edge.LEAST, Edge.GREATEST, Edge.GREATEST - 3, Edge.GREATEST - 4}) {
            Edge.faults("lain from " + from + " on", cold(), x -> x.lain(3, 2, from, 0), 3);
        }
        Edge.still("lain from 0 on", cold(), x -> x.lain(3, 2, 0, 3), -9, 0);
        Edge.still("lain from 1 on", cold(), x -> x.lain(3, 2, 1, 3), 0, 0);
        for (int many = 1; many <= 5; many++) {
            BarrowNights x = Due.on("d;r100" + ",001".repeat(many));
            for (int cells = 0; cells <= 6; cells++) {
                Due.is("a row", x.sheet(1, 0, cells), 1);
                Due.is("dreams of " + many + " by " + cells, x.lain(1, 0, 0, -1), cells < many ? -13 : 0);
            }
        }
    }

    private static void lainRowOfNoCells() {
        Edge.faults("a row of 0 cells", told(), x -> x.lain(3, 2, 0, -1), 3);
        Edge.faults("a row of 0 cells, k too", told(), x -> x.lain(3, 2, 0, 4), 3);
    }

    private static void lainRowOfSixtyCells() {
        int[] cells = new int[60];
        cells[56] = 99;
        cells[57] = 99;
        cells[58] = 99;
        cells[59] = 12;
        Edge.still("the last 4 of 60 cells", told(cells), x -> x.lain(3, 2, 56, 3), 2, 0);
        Edge.faults("one further", told(cells), x -> x.lain(3, 2, 57, 3), 3);
    }

    /** "in the order in which a call's line tells them" */
    private static void lainOrder() {
        Edge.still("UNKNOWN ahead of OUTSIDE: lane", Edge::busy, x -> x.lain(4, 3, 0, 0), -1, 0);
        Edge.still("UNKNOWN ahead of OUTSIDE: k", Edge::busy, x -> x.lain(-1, 0, 0, 5), -1, 0);
        Edge.still("UNKNOWN ahead of STATE", BarrowNights::new, x -> x.lain(4, 0, 0, 0), -1, 0);
        Edge.still("UNKNOWN ahead of INDEX", Edge::busy, x -> x.lain(4, 0, -1, 0), -1, 0);
        Edge.still("OUTSIDE: lane ahead of STATE", BarrowNights::new, x -> x.lain(0, 3, 0, 0), -2, 0);
        Edge.still("OUTSIDE: k ahead of STATE", BarrowNights::new, x -> x.lain(0, 0, 0, 5), -2, 0);
        Edge.still("OUTSIDE: lane ahead of NULL", Edge::busy, x -> x.lain(3, 3, 0, 0), -2, 0);
        Edge.still("OUTSIDE: k ahead of CAST", Edge::busy, x -> x.lain(1, 0, 0, -2), -2, 0);
        Edge.still("OUTSIDE: k ahead of NULL", Edge::busy, x -> x.lain(3, 0, 0, 5), -2, 0);
        Edge.still("OUTSIDE: k ahead of INDEX", Edge::busy, x -> x.lain(1, 1, -1, 5), -2, 0);
        Edge.still("STATE ahead of CAST", HousedEdgesTest::noDown, x -> x.lain(1, 0, 0, 0), -3, 0);
        Edge.still("STATE ahead of NULL", HousedEdgesTest::noDown, x -> x.lain(0, 0, 0, 0), -3, 0);
        Edge.still("STATE ahead of INDEX", HousedEdgesTest::noDown, x -> x.lain(1, 1, -1, 0), -3, 0);
        Edge.faults("CAST ahead of INDEX", Edge::busy, x -> x.lain(1, 0, -1, 0), 2);
        Edge.faults("NULL ahead of INDEX", Edge::busy, x -> x.lain(3, 0, -1, 0), 1);
    }

    /** A WALKER dreams of a lesser one, of the landlord of a BARROW that is there, or has no DREAM: 99. */
    private static void lainToldDreams() {
        for (int w = 0; w < 5; w++) {
            BarrowNights x = Due.on("d;l400;l400;l400;l400;l400,001,001,001,001,001");
            Due.row(x, 1, 2, -9, -9, -9, -9, -9);
            for (int dream = -12; dream <= 102; dream++) {
                x.put(1, w, dream);
                boolean can = dream >= 0 && dream < w || dream >= 10 && dream <= 14 || dream == 99 || dream == -9;
                Due.holds("DREAM " + dream + " of " + w, x.lain(1, 2, 0, -1) > 0 == can);
            }
        }
        BarrowNights x = Due.on("d;r100;r100,001");
        int[][] ways = {{9, 0}, {10, 1}, {11, 1}, {12, 0}, {0, 0}, {98, 0}, {99, 1}, {100, 0}, {-9, 3}, {-8, 0}, {-10, 0}};
        for (int[] one : ways) {
            Due.row(x, 1, 2, one[0]);
            Due.is("ways by DREAM " + one[0], x.lain(1, 2, 0, -1), one[1]);
        }
    }

    private static void lainDreamsAreNotCut() {
        BarrowNights x = Due.on("d;r100,001");
        Due.row(x, 1, 2, 256 + 10, 65536 + 99, 256 - 9);
        for (int i = 0; i < 3; i++) Due.is("an int", x.lain(1, 2, i, -1), 0);
        Due.row(x, 1, 1, 256 + 10, 65536 + 99, 256 - 9);
        int[] shorts = {0, 1, 0};
        for (int i = 0; i < 3; i++) Due.is("a short, cut as it came", x.lain(1, 1, i, -1), shorts[i]);
        Due.row(x, 1, 0, 256 + 10, 65536 + 99, 256 - 9);
        int[] bytes = {1, 1, 2};
        for (int i = 0; i < 3; i++) Due.is("a byte, cut as it came", x.lain(1, 0, i, -1), bytes[i]);
    }

    /** "no BARROW having more than it HOLDS": a chain of dreams in one BARROW, as long as it HOLDS and 1 longer */
    private static void lainByRoom() {
        for (int beds = 1; beds <= 4; beds++) {
            chain("d;r" + beds + "00", beds);
            chain("d;l" + beds + "00", 2 * beds);
            chain("d;g" + beds + "00", beds + 1);
        }
    }

    private static void chain(String barrow, int holds) {
        for (int many = 1; many <= 5; many++) {
            BarrowNights x = Due.on(barrow + ",001".repeat(many));
            int[] dreams = new int[many];
            for (int w = 0; w < many; w++) dreams[w] = w == 0 ? 10 : w - 1;
            Due.row(x, 1, 1, dreams);
            Due.is(many + " in " + barrow, x.lain(1, 1, 0, -1), many <= holds ? 1 : 0);
            Due.is("the last of them", x.lain(1, 1, 0, many - 1), many <= holds ? 0 : -9);
        }
    }

    /** "NONE is any, also none" */
    private static void lainAny() {
        int[] most = {6, 36, 216, 1296, 7776};
        for (int many = 1; many <= 5; many++) {
            BarrowNights x = Due.on("d;l400;l400;l400;l400;l400" + ",001".repeat(many));
            int[] any = new int[many];
            for (int w = 0; w < many; w++) any[w] = -9;
            Due.row(x, 2, 0, any);
            Due.is("all ways of " + many, x.lain(2, 0, 0, -1), most[many - 1]);
            for (int w = 0; w < 5; w++) Due.is("the first has all in 0", x.lain(2, 0, 0, w), w < many ? 0 : -9);
        }
        BarrowNights one = Due.on("d;r100,001");
        Due.row(one, 2, 0, -9);
        Due.is("one or none", one.lain(2, 0, 0, -1), 2);
    }

    /** "NONE: .. no way" */
    private static void lainNoWay() {
        Edge.still("no way", told(10, 0, -9, -9), x -> x.lain(3, 2, 0, -1), 0, 0);
        for (int walker = 0; walker < 5; walker++) {
            int k = walker;
            Edge.still("no way, k " + k, told(10, 0, -9, -9), x -> x.lain(3, 2, 0, k), -9, 0);
        }
        // A way that was found by an earlier call is not told again.
        BarrowNights x = Due.on("d;r100,001");
        Due.row(x, 1, 2, 10, 11);
        Due.is("a way", x.lain(1, 2, 0, 0), 0);
        Due.is("no way", x.lain(1, 2, 1, 0), -9);
    }

    /** "the first as a row (none is told as the number of BARROWS)": so none comes last */
    private static void lainFirstRow() {
        int[] dreams = {-9, 99, -9, 11};
        int[] want = {0, -9, 2, 1};
        for (int walker = 0; walker < 4; walker++) {
            int k = walker;
            Edge.still("the first way, k " + k, told(dreams), x -> x.lain(3, 2, 0, k), want[k], 0);
        }
        BarrowNights x = Due.on("d;r100,001,001");
        Due.row(x, 1, 2, -9, -9);
        Due.is("ways", x.lain(1, 2, 0, -1), 3);
        Due.is("0 has the bed", x.lain(1, 2, 0, 0), 0);
        Due.is("1 has none", x.lain(1, 2, 0, 1), -9);
    }

    /** "REACH, PENCE aside" */
    private static void lainReachPenceLodgersAside() {
        BarrowNights x = Due.on("d;r199;r100,001,001");
        Due.is("lodge", x.lodge(1, 1), 1);
        Due.row(x, 1, 2, 11, 10);
        Due.is("too far, too dear, taken", x.lain(1, 2, 0, -1), 1);
        Due.is("0 in 1", x.lain(1, 2, 0, 0), 1);
        Due.is("1 in 0", x.lain(1, 2, 0, 1), 0);
    }
}

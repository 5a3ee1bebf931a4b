import java.util.Arrays;

/** The edges of promises 7 to 10: a test for each sentence that names one. */
public final class NightsEdgesTest {
    private static final int[] WHATS = {0, 1, 2, 3, 10, 11, 12, 13, 14, 20, 21, 22, 23, 24};

    public static void main(String[] args) {
        lodgeUnknown();
        lodgeWhoLodges();
        lodgeByReach();
        lodgeByMeans();
        lodgeByRoom();
        lodgeMovesTheWalker();
        lodgeOrder();
        leave();
        leaveRefusals();
        nightOutside();
        nightState();
        nightPaysTheLastPenny();
        nightPutsOut();
        nightForNothing();
        nightCold();
        nightOfTheRichest();
        seasonUnknown();
        seasonOutsideLane();
        seasonOutsideCount();
        seasonOutsideWhat();
        seasonCastAndNull();
        seasonIndex();
        seasonRowOfNoCells();
        seasonRowOfSixtyCells();
        seasonState();
        seasonOrder();
        pairSecond();
        pairNights();
        pairWalker();
        pairByPair();
        pairsAheadOfActs();
        pairsAreNotCut();
        seasonOfNoPairs();
        seasonFirstWrong();
        seasonFirstAndLastWrong();
        seasonOfNoSuchWalker();
        seasonNightsAndPutOut();
        seasonFromNow();
        seasonOfTheMost();
        seasonBehindSeason();
        Due.end();
    }

    // ---- promise 7

    private static void lodgeUnknown() {
        for (int w : Edge.beyond(3)) Edge.still("lodge of WALKER " + w, Edge::busy, x -> x.lodge(w, 2), -1);
        for (int b : Edge.beyond(3)) Edge.still("lodge in BARROW " + b, Edge::busy, x -> x.lodge(3, b), -1);
        Edge.still("lodge of neither", Edge::busy, x -> x.lodge(4, 4), -1);
        BarrowNights x = Due.on("d;r100;r100;r100;r100;r100,001,001,001,001,001");
        Due.is("the last in the last", x.lodge(4, 4), 1);
        Due.is("the first in the first", x.lodge(0, 0), 1);
    }

    /** "STATE: it lodges" */
    private static void lodgeWhoLodges() {
        Edge.still("it lodges there", Edge::busy, x -> x.lodge(0, 1), -3);
        Edge.still("it lodges elsewhere", Edge::busy, x -> x.lodge(1, 1), -3);
        Edge.still("it lodges, and could not there", Edge::busy, x -> x.lodge(0, 3), -3);
    }

    /** "its PLACE is no farther from the WALKER's than REACH" */
    private static void lodgeByReach() {
        for (int reach = 1; reach <= 9; reach++) {
            for (int place = 0; place <= 9; place++) {
                for (int there = 0; there <= 9; there++) lodgeFrom(place, there, reach);
            }
        }
        Edge.still("too far, by 1, below", () -> Due.on("d;r100,056,054"), x -> x.lodge(1, 0), -3);
        Edge.still("too far, by 1, above", () -> Due.on("d;r109,056,053"), x -> x.lodge(1, 0), -3);
    }

    private static void lodgeFrom(int place, int there, int reach) {
        boolean far = Math.abs(place - there) > reach;
        BarrowNights x = Due.on("d;r10" + there + ",0" + place + reach);
        Due.is("lodge " + Math.abs(place - there) + " far, REACH " + reach, x.lodge(0, 0), far ? -3 : 1);
        Due.is("its PLACE then", x.ofWalker(0, 1), far ? place : there);
    }

    /** "its PENCE are no more than MEANS" */
    private static void lodgeByMeans() {
        for (int pence = 0; pence <= 9; pence++) {
            for (int means = 0; means <= 9; means++) {
                BarrowNights x = Due.on("d;r1" + pence + "0," + means + "01");
                Due.is("lodge for " + pence + " of " + means, x.lodge(0, 0), pence > means ? -3 : 1);
                Due.is("nothing is paid", x.ofWalker(0, 0), means);
            }
        }
        Edge.still("too dear, by 1", () -> Due.on("d;r190,801"), x -> x.lodge(0, 0), -3);
        BarrowNights x = Due.on("d;r100,901");
        Due.is("nothing left", x.earn(0, 0), 9);
        Due.is("nothing asked", x.lodge(0, 0), 1);
    }

    /** "there are fewer lodgers than it HOLDS" */
    private static void lodgeByRoom() {
        for (int beds = 1; beds <= 4; beds++) {
            fill("d;r" + beds + "00", beds);
            fill("d;l" + beds + "00", 2 * beds);
            fill("d;g" + beds + "00", beds + 1);
        }
        Edge.still("it is full", NightsEdgesTest::full, x -> x.lodge(2, 0), -3);
        BarrowNights x = full();
        Due.is("one leaves", x.leave(0), 0);
        Due.is("there is room", x.lodge(2, 0), 2);
        Due.is("for one", x.lodge(0, 0), -3);
    }

    private static BarrowNights full() {
        BarrowNights x = Due.on("d;g100,001,001,001");
        Due.is("lodge", x.lodge(0, 0), 1);
        Due.is("lodge", x.lodge(1, 0), 2);
        return x;
    }

    private static void fill(String barrow, int holds) {
        BarrowNights x = Due.on(barrow + ",001,001,001,001,001");
        for (int w = 0; w < 5; w++) Due.is("lodger " + w + " of " + barrow, x.lodge(w, 0), w < holds ? w + 1 : -3);
        Due.is("who lodge in " + barrow, x.many(3), Math.min(holds, 5));
    }

    /** "its PLACE is then that of the BARROW": so its REACH is from there, also when it has left. */
    private static void lodgeMovesTheWalker() {
        BarrowNights x = Due.on("d;r102;r104;r106,001,002");
        Due.is("too far yet", x.lodge(1, 1), -3);
        Due.is("lodge", x.lodge(1, 0), 1);
        Due.is("leave", x.leave(1), 0);
        Due.is("near enough now", x.lodge(1, 1), 1);
        Due.is("leave", x.leave(1), 1);
        Due.is("its PLACE", x.ofWalker(1, 1), 4);
        Due.is("on", x.lodge(1, 2), 1);
        Due.is("leave", x.leave(1), 2);
        Due.is("too far back", x.lodge(1, 0), -3);
        Due.is("the other's PLACE stays", x.ofWalker(0, 1), 0);
    }

    private static void lodgeOrder() {
        Edge.still("UNKNOWN WALKER ahead of STATE", Edge::busy, x -> x.lodge(4, 3), -1);
        Edge.still("UNKNOWN BARROW ahead of STATE", Edge::busy, x -> x.lodge(0, 4), -1);
        Edge.still("UNKNOWN BARROW ahead of STATE", Edge::busy, x -> x.lodge(0, -1), -1);
    }

    // ---- promise 8

    /** "it stays at that PLACE" */
    private static void leave() {
        BarrowNights x = Due.on("d;r100;r109,001,099");
        Due.makeFault(x);
        Due.is("lodge", x.lodge(1, 0), 1);
        Due.is("leaves 0", x.leave(1), 0);
        Due.is("its PLACE", x.ofWalker(1, 1), 0);
        Due.is("lodge", x.lodge(1, 1), 1);
        Due.is("leaves 1", x.leave(1), 1);
        Due.is("its PLACE", x.ofWalker(1, 1), 9);
        Due.is("fault() stays", x.fault(), 4);
        Due.is("nobody lodges", x.many(3), 0);
    }

    private static void leaveRefusals() {
        for (int w : Edge.beyond(3)) Edge.still("leave of " + w, Edge::busy, x -> x.leave(w), -1);
        Edge.still("it does not lodge", Edge::busy, x -> x.leave(3), -3);
        Edge.still("it has left", NightsEdgesTest::left, x -> x.leave(0), -3);
        Edge.still("it was PUT OUT", NightsEdgesTest::putOut, x -> x.leave(0), -3);
    }

    private static BarrowNights left() {
        BarrowNights x = Edge.busy();
        Due.is("leave", x.leave(0), 1);
        return x;
    }

    private static BarrowNights putOut() {
        BarrowNights x = Edge.busy();
        Due.is("four nights more", x.night(4), 1);
        return x;
    }

    // ---- promise 9

    private static void nightOutside() {
        for (int n : new int[] {0, -1, 31, Edge.LEAST, Edge.GREATEST}) Edge.still("night(" + n + ")", Edge::busy, x -> x.night(n), -2);
        for (int n : new int[] {1, 2, 29, 30}) {
            BarrowNights x = Due.on("d;r100,001");
            Due.is("night(" + n + ")", x.night(n), 0);
            Due.is("NIGHTS", x.many(2), n);
            Due.is("COLD", x.ofWalker(0, 4), n);
        }
    }

    private static void nightState() {
        Edge.still("no DOWN", BarrowNights::new, x -> x.night(1), -3);
        Edge.still("no DOWN", BarrowNights::new, x -> x.night(30), -3);
        Edge.still("OUTSIDE ahead of STATE", BarrowNights::new, x -> x.night(0), -2);
        Edge.still("OUTSIDE ahead of STATE", BarrowNights::new, x -> x.night(31), -2);
    }

    private static BarrowNights lodging(int pence, int means) {
        BarrowNights x = Due.on("d;r1" + pence + "0," + means + "01");
        Due.is("lodge", x.lodge(0, 0), 1);
        return x;
    }

    /** MEANS of just so many PENCE are enough. */
    private static void nightPaysTheLastPenny() {
        for (int pence = 1; pence <= 9; pence++) {
            BarrowNights x = lodging(pence, pence);
            Due.is("nobody is PUT OUT", x.night(1), 0);
            Due.is("MEANS", x.ofWalker(0, 0), 0);
            Due.is("it lodges", x.ofWalker(0, 3), 0);
            Due.is("it is not COLD", x.ofWalker(0, 4), 0);
        }
    }

    /** "who has not so many is PUT OUT (lodges no longer, pays nothing)": 1 too few. */
    private static void nightPutsOut() {
        for (int pence = 1; pence <= 9; pence++) {
            BarrowNights x = lodging(pence, 9);
            Due.is("1 too few", x.earn(0, pence - 1), 9);
            Due.is("one is PUT OUT", x.night(1), 1);
            Due.is("it pays nothing", x.ofWalker(0, 0), pence - 1);
            Due.is("it lodges no longer", x.ofWalker(0, 3), -9);
            Due.is("it is COLD", x.ofWalker(0, 4), 1);
            Due.is("it stays at that PLACE", x.ofWalker(0, 1), 0);
            Due.is("it is PUT OUT once", x.night(30), 0);
            Due.is("it is COLDER", x.ofWalker(0, 4), 31);
        }
        BarrowNights x = Due.on("d;l490,901,901,901,901,901");
        for (int w = 0; w < 5; w++) Due.is("lodge", x.lodge(w, 0), w + 1);
        Due.is("all pay, then all are PUT OUT", x.night(30), 5);
        Due.is("nobody lodges", x.many(3), 0);
    }

    private static void nightForNothing() {
        BarrowNights x = lodging(0, 0);
        Due.is("nobody is PUT OUT", x.night(30), 0);
        Due.is("it lodges", x.ofWalker(0, 3), 0);
        Due.is("it is not COLD", x.ofWalker(0, 4), 0);
        Due.is("a penny now", x.charge(0, 1), 0);
        Due.is("one is PUT OUT", x.night(1), 1);
    }

    /** "who does not lodge then is 1 more COLD" */
    private static void nightCold() {
        BarrowNights x = Due.on("d;r110,201,001");
        Due.is("lodge", x.lodge(0, 0), 1);
        int[] cold = {0, 0, 1, 2, 3};
        for (int night = 0; night < 5; night++) {
            Due.is("night", x.night(1), night == 2 ? 1 : 0);
            Due.is("COLD, of who lodged", x.ofWalker(0, 4), cold[night]);
            Due.is("COLD, of who did not", x.ofWalker(1, 4), night + 1);
        }
    }

    private static void nightOfTheRichest() {
        BarrowNights x = lodging(9, 9);
        Due.is("MEANS 99", x.earn(0, 99), 9);
        Due.is("11 nights", x.night(11), 0);
        Due.is("MEANS", x.ofWalker(0, 0), 0);
        Due.is("the twelfth", x.night(1), 1);
        Due.is("MEANS 98", x.earn(0, 98), 0);
        Due.is("lodge", x.lodge(0, 0), 1);
        Due.is("11 nights", x.night(11), 1);
        Due.is("MEANS", x.ofWalker(0, 0), 8);
    }

    // ---- promise 10

    /** The busy down, with a season on sheet 3, as ints. */
    private static Edge.Made told(int... pairs) {
        return () -> {
            BarrowNights x = Edge.busy();
            Due.row(x, 3, 2, pairs);
            return x;
        };
    }

    /** What a season of all those pairs answers. */
    private static void season(String told, int what, long want, int... pairs) {
        Edge.still(told, told(pairs), x -> x.season(3, 2, 0, pairs.length / 2, what), want, 0);
    }

    private static void seasonUnknown() {
        for (int k : Edge.beyond(3)) Edge.still("season by sheet " + k, Edge::busy, x -> x.season(k, 0, 0, 0, 0), -1, 0);
        for (int sheet = 0; sheet <= 3; sheet++) {
            int k = sheet;
            BarrowNights x = Edge.busy();
            Due.row(x, k, 0, 2, 2);
            Due.is("season by sheet " + k, x.season(k, 0, 0, 1, 0), 7);
        }
    }

    private static void seasonOutsideLane() {
        for (int lane : Edge.beyond(2)) Edge.still("season by lane " + lane, told(2, 2), x -> x.season(3, lane, 0, 1, 0), -2, 0);
        for (int lane = 0; lane <= 2; lane++) {
            BarrowNights x = Edge.busy();
            Due.row(x, 3, lane, 2, 2);
            Due.is("season by lane " + lane, x.season(3, lane, 0, 1, 0), 7);
        }
    }

    /** "n (0 .. 20)" */
    private static void seasonOutsideCount() {
        int[] nights = new int[44];
        for (int a = 0; a < 22; a++) nights[2 * a + 1] = 8;
        for (int n : Edge.beyond(20)) Edge.still("a season of " + n, told(nights), x -> x.season(3, 2, 0, n, 0), -2, 0);
        for (int n : new int[] {0, 1, 19, 20}) Edge.still("a season of " + n, told(nights), x -> x.season(3, 2, 0, n, 0), 3, 0);
    }

    /** "what (0 .. 3, 10 .. 14, 20 .. 24)" */
    private static void seasonOutsideWhat() {
        for (int what : new int[] {-1, 4, 9, 15, 19, 25, 30, 110, Edge.LEAST, Edge.GREATEST}) {
            Edge.still("a season, what " + what, told(2, 2), x -> x.season(3, 2, 0, 1, what), -2, 0);
        }
        int[] want = {7, -9, 0, 14, 1, 2, 2, -9, -9, 0, 0, 2, 2, -9};
        for (int a = 0; a < WHATS.length; a++) season("a season, what " + WHATS[a], WHATS[a], want[a], 2, 2);
    }

    private static void seasonCastAndNull() {
        Edge.castsAndNulls("season", (x, k, lane) -> x.season(k, lane, 0, 0, 0), false);
    }

    /** "cells of a SHEET from i on (2 n)" */
    private static void seasonIndex() {
        int[][] beyond = {
            {-1, 0}, {-1, 1}, {0, 3}, {1, 2}, {3, 1}, {4, 1}, {5, 0}, {0, 20}, {Edge.LEAST, 0}, {Edge.LEAST, 20}, {Edge.GREATEST, 0},
            {Edge.GREATEST, 20}, {Edge.GREATEST - 40, 20}, {Edge.GREATEST - 39, 20},
        };
        for (int[] c : beyond) {
            Edge.faults("a season of " + c[1] + " from " + c[0] + " on", told(2, 2, 1, 8), x -> x.season(3, 2, c[0], c[1], 1), 3);
        }
        Edge.still("both pairs", told(2, 2, 1, 8), x -> x.season(3, 2, 0, 2, 23), 3, 0);
        Edge.still("the last pair", told(2, 2, 1, 8), x -> x.season(3, 2, 2, 1, 0), 3, 0);
        Edge.still("no pairs, from the end on", told(2, 2, 1, 8), x -> x.season(3, 2, 4, 0, 0), 3, 0);
        Edge.still("from an odd cell on", told(9, 2, 2, 9), x -> x.season(3, 2, 1, 1, 0), 7, 0);
    }

    private static void seasonRowOfNoCells() {
        Edge.still("no pairs of a row of 0 cells", told(), x -> x.season(3, 2, 0, 0, 0), 3, 0);
        Edge.faults("a pair of it", told(), x -> x.season(3, 2, 0, 1, 0), 3);
        Edge.faults("none, from 1 on", told(), x -> x.season(3, 2, 1, 0, 0), 3);
        Edge.faults("none, from -1 on", told(), x -> x.season(3, 2, -1, 0, 0), 3);
    }

    private static void seasonRowOfSixtyCells() {
        int[] cells = new int[60];
        for (int i = 21; i < 60; i += 2) cells[i] = 8;
        cells[58] = 9;
        Edge.still("the last 20 pairs of 60 cells", told(cells), x -> x.season(3, 2, 20, 20, 23), 11, 0);
        Edge.still("no pairs from 60 on", told(cells), x -> x.season(3, 2, 60, 0, 23), 2, 0);
        Edge.faults("20 pairs from 21 on", told(cells), x -> x.season(3, 2, 21, 20, 23), 3);
        Edge.faults("a pair from 59 on", told(cells), x -> x.season(3, 2, 59, 1, 23), 3);
        Edge.faults("none from 61 on", told(cells), x -> x.season(3, 2, 61, 0, 23), 3);
    }

    private static BarrowNights noDown() {
        BarrowNights x = new BarrowNights();
        Due.row(x, 1, 1, 0, 7);
        return x;
    }

    private static void seasonState() {
        Edge.still("no DOWN", NightsEdgesTest::noDown, x -> x.season(1, 1, 0, 0, 0), -3, 0);
        for (int what : WHATS) Edge.still("no DOWN, what " + what, NightsEdgesTest::noDown, x -> x.season(1, 1, 0, 1, what), -3, 0);
    }

    /** "in the order in which a call's line tells them" */
    private static void seasonOrder() {
        Edge.still("UNKNOWN ahead of OUTSIDE: lane", Edge::busy, x -> x.season(4, 3, 0, 0, 0), -1, 0);
        Edge.still("UNKNOWN ahead of OUTSIDE: n", Edge::busy, x -> x.season(4, 0, 0, 21, 0), -1, 0);
        Edge.still("UNKNOWN ahead of OUTSIDE: what", Edge::busy, x -> x.season(-1, 0, 0, 0, 4), -1, 0);
        Edge.still("UNKNOWN ahead of INDEX", Edge::busy, x -> x.season(4, 0, -1, 0, 0), -1, 0);
        Edge.still("UNKNOWN ahead of STATE", NightsEdgesTest::noDown, x -> x.season(4, 1, 0, 0, 0), -1, 0);
        Edge.still("OUTSIDE: lane ahead of NULL", Edge::busy, x -> x.season(3, 3, 0, 0, 0), -2, 0);
        Edge.still("OUTSIDE: n ahead of CAST", Edge::busy, x -> x.season(1, 0, 0, 21, 0), -2, 0);
        Edge.still("OUTSIDE: what ahead of CAST", Edge::busy, x -> x.season(1, 0, 0, 0, 4), -2, 0);
        Edge.still("OUTSIDE: n ahead of NULL", Edge::busy, x -> x.season(3, 0, 0, -1, 0), -2, 0);
        Edge.still("OUTSIDE: n ahead of INDEX", Edge::busy, x -> x.season(1, 1, -1, 21, 0), -2, 0);
        Edge.still("OUTSIDE: what ahead of INDEX", Edge::busy, x -> x.season(1, 1, -1, 0, 4), -2, 0);
        Edge.still("OUTSIDE ahead of STATE", NightsEdgesTest::noDown, x -> x.season(1, 1, 0, 0, 4), -2, 0);
        Edge.faults("CAST ahead of INDEX", Edge::busy, x -> x.season(1, 0, -1, 0, 0), 2);
        Edge.faults("NULL ahead of INDEX", Edge::busy, x -> x.season(3, 0, -1, 0, 0), 1);
        Edge.faults("CAST ahead of STATE", NightsEdgesTest::noDown, x -> x.season(1, 0, 0, 0, 0), 2);
        Edge.faults("NULL ahead of STATE", NightsEdgesTest::noDown, x -> x.season(0, 0, 0, 0, 0), 1);
        Edge.faults("INDEX ahead of STATE", NightsEdgesTest::noDown, x -> x.season(1, 1, 0, 2, 0), 3);
        Edge.faults("INDEX ahead of the pairs", told(0, 7), x -> x.season(3, 2, 0, 2, 0), 3);
        Edge.still("STATE ahead of the pairs", NightsEdgesTest::noDown, x -> x.season(1, 1, 0, 1, 1), -3, 0);
    }

    /** "the second is none of the BARROWS, 8, 9": with 1 to 5 BARROWS */
    private static void pairSecond() {
        for (int many = 1; many <= 5; many++) {
            String text = "d" + ";r100".repeat(many) + ",001";
            for (int second = -2; second <= 12; second++) {
                BarrowNights x = Due.on(text);
                Due.row(x, 1, 2, 0, second);
                int want = second >= 0 && second < many || second == 8 ? -9 : second == 9 ? 0 : -2;
                Due.makeFault(x);
                Due.faulted(x, "first wrong of (0, " + second + ") with " + many, x.season(1, 2, 0, 1, 1), want, 0);
            }
        }
        for (int second : new int[] {-1, 4, 7, 10, Edge.LEAST, Edge.GREATEST}) {
            for (int what : WHATS) season("OUTSIDE: second " + second, what, -2, 2, second);
        }
    }

    /** "or it is 8, and the first is not 0 .. 9" */
    private static void pairNights() {
        for (int first : Edge.beyond(9)) season("OUTSIDE: " + first + " nights", 1, -2, first, 8);
        for (int first = 0; first <= 9; first++) season("COLD behind " + first + " nights", 22, 2 + first, first, 8);
    }

    /** "the first is no WALKER (of all but 8)" */
    private static void pairWalker() {
        for (int first : Edge.beyond(3)) {
            season("UNKNOWN: " + first + " leaves", 1, -1, first, 9);
            for (int b = 0; b < 4; b++) season("UNKNOWN: " + first + " lodges in " + b, 1, -1, first, b);
        }
        season("the last WALKER lodges", 13, 2, 3, 2);
        season("the first WALKER leaves", 0, 2, 0, 9);
        season("what is no WALKER is a number of nights", 1, -9, 4, 8);
    }

    /** "pair by pair OUTSIDE ..; UNKNOWN": in one pair OUTSIDE first, else the first pair that is ill told. */
    private static void pairByPair() {
        season("OUTSIDE ahead of UNKNOWN in a pair", 1, -2, 4, 7);
        season("OUTSIDE ahead of UNKNOWN in a pair", 1, -2, -1, -1);
        season("the first pair's UNKNOWN ahead of the second's OUTSIDE", 1, -1, 4, 0, 0, 7);
        season("the first pair's OUTSIDE ahead of the second's UNKNOWN", 1, -2, 0, 7, 4, 0);
        season("the nights' OUTSIDE ahead of the second's UNKNOWN", 1, -2, 10, 8, 4, 9);
        season("the first pair's UNKNOWN ahead of the nights' OUTSIDE", 1, -1, 4, 9, 10, 8);
        int[] last = new int[40];
        for (int a = 0; a < 20; a++) last[2 * a + 1] = 8;
        last[38] = 10;
        season("the twentieth pair", 1, -2, last);
        Edge.still("the nineteen ahead of it", told(last), x -> x.season(3, 2, 0, 19, 1), -9, 0);
    }

    /** A refusal is told ahead of what the season answers: also behind an act that can't be. */
    private static void pairsAheadOfActs() {
        season("OUTSIDE behind a FIRST WRONG", 1, -2, 3, 9, 0, 7);
        season("UNKNOWN behind a FIRST WRONG", 1, -1, 3, 9, 4, 9);
        season("OUTSIDE behind a FIRST WRONG", 0, -2, 3, 9, 10, 8);
    }

    private static void pairsAreNotCut() {
        season("a second of 256 and 8", 1, -2, 0, 264);
        season("a second of 65536 and 9", 1, -2, 0, 65545);
        season("a first of 256", 1, -1, 256, 2);
        season("65536 nights", 1, -2, 65536, 8);
    }

    private static void seasonOfNoPairs() {
        int[] want = {3, -9, 0, 14, 1, 2, -9, -9, -9, 0, 0, 2, 2, -9};
        for (int a = 0; a < WHATS.length; a++) season("no pairs, what " + WHATS[a], WHATS[a], want[a]);
    }

    /** "the first act that can't be": each way in which an act can't; "of one with a FIRST WRONG: -100 less that (but what 1)" */
    private static void seasonFirstWrong() {
        // It lodges, there or elsewhere; it is too far, too dear, full; it does not lodge.
        wrongAt(0, 1, 2);
        wrongAt(0, 0, 0);
        wrongAt(0, 2, 1);
        wrongAt(0, 3, 3);
        wrongAt(3, 0, 9, 0, 0, 1, 9, 1, 0);
        wrongAt(0, 2, 9);
        // By acts ahead of it: it lodges by then, has left, was PUT OUT.
        wrongAt(1, 3, 2, 3, 2);
        wrongAt(1, 0, 9, 0, 9);
        wrongAt(1, 9, 8, 0, 9);
        // The first of two.
        wrongAt(2, 0, 8, 1, 9, 3, 9, 2, 1);
    }

    private static void wrongAt(int act, int... pairs) {
        for (int what : WHATS) {
            season("first wrong of " + Arrays.toString(pairs), what, what == 1 ? act : -100 - act, pairs);
        }
    }

    private static void seasonFirstAndLastWrong() {
        int[] pairs = new int[40];
        for (int a = 0; a < 20; a++) pairs[2 * a + 1] = 8;
        pairs[38] = 3;
        pairs[39] = 9;
        season("the last of 20 acts", 1, 19, pairs);
        season("the last of 20 acts", 0, -119, pairs);
        pairs[0] = 3;
        pairs[1] = 9;
        season("the first of 20 acts", 1, 0, pairs);
        season("the first of 20 acts", 2, -100, pairs);
    }

    /** "NONE: it does not lodge, there is no such one", "NONE: there is no such one" */
    private static void seasonOfNoSuchWalker() {
        for (int many = 1; many <= 5; many++) {
            BarrowNights x = Due.on("d;l400" + ",001".repeat(many));
            int[] pairs = new int[2 * many + 2];
            for (int w = 0; w < many; w++) pairs[2 * w] = w;
            pairs[2 * many + 1] = 9;
            Due.row(x, 1, 2, pairs);
            for (int w = 0; w < 5; w++) {
                Due.is("BARROW of " + w + " of " + many, x.season(1, 2, 0, many, 10 + w), w < many ? 0 : -9);
                Due.is("BARROW of " + w + ", 0 has left", x.season(1, 2, 0, many + 1, 10 + w), w > 0 && w < many ? 0 : -9);
                Due.is("COLD of " + w + " of " + many, x.season(1, 2, 0, many, 20 + w), w < many ? 0 : -9);
            }
        }
    }

    private static void seasonNightsAndPutOut() {
        season("nobody is PUT OUT, the last penny is paid", 2, 0, 3, 8);
        season("MEANS of all then", 3, 11, 3, 8);
        season("one is PUT OUT", 2, 1, 4, 8);
        season("who lodges then", 0, 2, 4, 8);
        season("COLD, of who was PUT OUT", 20, 1, 4, 8);
        season("who lodges for nothing lodges on", 13, 2, 3, 2, 9, 8);
        season("and is no COLDER", 23, 2, 3, 2, 9, 8);
    }

    /** "from how all is now" */
    private static void seasonFromNow() {
        season("who lodges now can leave", 1, -9, 0, 9, 1, 9);
        season("who lodges now can't lodge", 1, 0, 0, 0);
        season("a PLACE is taken along", 1, -9, 0, 9, 0, 0);
        season("MEANS are those that are left", 3, 14);
        season("COLD goes on from what it is", 23, 3, 1, 8);
    }

    /** Five WALKERS with 99 MEANS each, and 20 times 9 nights. */
    private static void seasonOfTheMost() {
        BarrowNights x = Due.on("d;l400,001,001,001,001,001");
        for (int w = 0; w < 5; w++) Due.is("earn", x.earn(w, 99), 0);
        int[] pairs = new int[40];
        for (int a = 0; a < 40; a++) pairs[a] = a % 2 == 0 ? 9 : 8;
        Due.row(x, 1, 0, pairs);
        Due.is("MEANS of all five", x.season(1, 0, 0, 20, 3), 495);
        Due.is("COLD of the last", x.season(1, 0, 0, 20, 24), 180);
        Due.is("a new down, of one", Due.tellDown(x, "d;r100,701"), 1);
        Due.is("MEANS of the one", x.season(1, 0, 0, 0, 3), 7);
    }

    /** Nothing of a season is left for the next: not who was PUT OUT, not its FIRST WRONG. */
    private static void seasonBehindSeason() {
        BarrowNights x = Edge.busy();
        Due.row(x, 3, 2, 4, 8, 0, 9);
        for (int t = 0; t < 3; t++) {
            Due.is("PUT OUT", x.season(3, 2, 0, 1, 2), 1);
            Due.is("first wrong: it was PUT OUT", x.season(3, 2, 0, 2, 1), 1);
            Due.is("no first wrong", x.season(3, 2, 0, 1, 1), -9);
            Due.is("none PUT OUT in none", x.season(3, 2, 0, 0, 2), 0);
            Due.is("COLD", x.season(3, 2, 0, 1, 20), 1);
        }
    }
}

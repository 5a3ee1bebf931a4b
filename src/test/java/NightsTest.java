/** Promises 7 to 10: lodge, leave, night, season. */
public final class NightsTest {
    public static void main(String[] args) {
        lodgeCounts();
        lodgeRefusals();
        lodgeByReach();
        lodgeByPence();
        lodgeByRoom();
        leave();
        nightPays();
        nightPutsOut();
        nightRefusals();
        seasonAnswers();
        seasonChangesNothing();
        seasonFromNow();
        seasonFirstWrong();
        seasonRefusals();
        seasonFaults();
        seasonPairs();
        seasonOtherLanes();
        Due.end();
    }

    private static void lodgeCounts() {
        BarrowNights x = Due.on("d;l200,001,001,001,001,001");
        for (int w = 0; w < 4; w++) Due.is("lodge", x.lodge(w, 0), w + 1);
        Due.is("there is no bed for a fifth", x.lodge(4, 0), -3);
        Due.is("the fifth does not lodge", x.ofWalker(4, 3), -9);
        Due.is("who lodge", x.many(3), 4);
        Due.is("as a set", x.ofBarrow(0, 5), 15);
    }

    private static void lodgeRefusals() {
        BarrowNights x = Due.on(Due.FOUR);
        Due.is("no such walker", x.lodge(4, 0), -1);
        Due.is("no such barrow", x.lodge(0, 4), -1);
        Due.is("neither", x.lodge(-1, -1), -1);
        Due.is("lodge", x.lodge(0, 1), 1);
        Due.is("it lodges there", x.lodge(0, 1), -3);
        Due.is("it lodges elsewhere", x.lodge(0, 0), -3);
        Due.is("it lodges, no such barrow", x.lodge(0, 4), -1);
        Due.is("it stays", x.ofWalker(0, 3), 1);
        Due.is("at its place", x.ofWalker(0, 1), 6);
    }

    private static void lodgeByReach() {
        BarrowNights x = Due.on("d;r102;r108;r105,053,052,058");
        Due.is("3 far, reach 3", x.lodge(0, 0), 1);
        Due.is("2 below", x.ofWalker(0, 1), 2);
        Due.is("3 far, reach 2", x.lodge(1, 1), -3);
        Due.is("its place stays", x.ofWalker(1, 1), 5);
        Due.is("3 above, reach 8", x.lodge(2, 1), 1);
        Due.is("leave", x.leave(0), 0);
        Due.is("6 far now, reach 3", x.lodge(0, 1), -3);
        Due.is("leave", x.leave(2), 1);
        Due.is("6 far, reach 3, and it is free", x.lodge(0, 1), -3);
        Due.is("3 far from where it is now", x.lodge(0, 2), 1);
        Due.is("leave", x.leave(0), 2);
        Due.is("and on", x.lodge(0, 1), 1);
    }

    private static void lodgeByPence() {
        BarrowNights x = Due.on("d;r450,401,501,601");
        Due.is("4 of 5", x.lodge(0, 0), -3);
        Due.is("5 of 5", x.lodge(1, 0), 1);
        Due.is("nothing is paid yet", x.ofWalker(1, 0), 5);
        Due.is("6 of 5", x.lodge(2, 0), 2);
        Due.is("earn", x.earn(0, 5), 4);
        Due.is("now 5 of 5", x.lodge(0, 0), 3);
        Due.is("charge", x.charge(0, 9), 5);
        Due.is("they stay", x.many(3), 3);
    }

    private static void lodgeByRoom() {
        BarrowNights round = Due.on("d;r200,001,001,001,001,001");
        BarrowNights ring = Due.on("d;g200,001,001,001,001,001");
        BarrowNights lng = Due.on("d;l200,001,001,001,001,001");
        for (int w = 0; w < 5; w++) {
            Due.is("a round one with 2 beds", round.lodge(w, 0), w < 2 ? w + 1 : -3);
            Due.is("a ring with 2 beds", ring.lodge(w, 0), w < 3 ? w + 1 : -3);
            Due.is("a long one with 2 beds", lng.lodge(w, 0), w < 4 ? w + 1 : -3);
        }
    }

    private static void leave() {
        BarrowNights x = Due.on(Due.FOUR);
        Due.is("it does not lodge", x.leave(0), -3);
        Due.is("no such walker", x.leave(4), -1);
        Due.is("no such walker", x.leave(-1), -1);
        Due.is("lodge", x.lodge(0, 1), 1);
        Due.is("leave", x.leave(0), 1);
        Due.is("no lodger", x.ofBarrow(1, 5), 0);
        Due.is("it stays at that place", x.ofWalker(0, 1), 6);
        Due.is("it does not lodge", x.ofWalker(0, 3), -9);
        Due.is("again", x.leave(0), -3);
        Due.is("who lodge", x.many(3), 0);
    }

    private static void nightPays() {
        BarrowNights x = Due.on("d;l330,901,801,701");
        Due.is("lodge", x.lodge(0, 0), 1);
        Due.is("lodge", x.lodge(2, 0), 2);
        Due.is("a night", x.night(1), 0);
        Due.is("it paid", x.ofWalker(0, 0), 6);
        Due.is("who does not lodge pays nothing", x.ofWalker(1, 0), 8);
        Due.is("it paid too", x.ofWalker(2, 0), 4);
        Due.is("who lodges is not cold", x.ofWalker(0, 4), 0);
        Due.is("who does not is", x.ofWalker(1, 4), 1);
        Due.is("nights", x.many(2), 1);
        Due.is("the last penny is paid, the other is put out", x.night(2), 1);
        Due.is("means", x.ofWalker(0, 0), 0);
        Due.is("it lodges yet", x.ofWalker(0, 3), 0);
        Due.is("what it could not pay it keeps", x.ofWalker(2, 0), 1);
        Due.is("nights", x.many(2), 3);
    }

    private static void nightPutsOut() {
        BarrowNights x = Due.on("d;r420;g103,901,201,031");
        Due.is("lodge", x.lodge(0, 0), 1);
        Due.is("lodge", x.lodge(1, 0), 2);
        Due.is("lodge", x.lodge(2, 1), 1);
        Due.is("five nights", x.night(5), 2);
        Due.is("who had 9 paid 4 times", x.ofWalker(0, 0), 1);
        Due.is("is out", x.ofWalker(0, 3), -9);
        Due.is("cold in the night it was put out", x.ofWalker(0, 4), 1);
        Due.is("who had 2 paid once", x.ofWalker(1, 0), 0);
        Due.is("is out", x.ofWalker(1, 3), -9);
        Due.is("cold", x.ofWalker(1, 4), 4);
        Due.is("who lies for nothing lies on", x.ofWalker(2, 3), 1);
        Due.is("not cold", x.ofWalker(2, 4), 0);
        Due.is("it stays at that place", x.ofWalker(1, 1), 0);
        Due.is("nobody more to put out", x.night(30), 0);
        Due.is("colder", x.ofWalker(1, 4), 34);
        Due.is("nights", x.many(2), 35);
        Due.is("charge", x.charge(1, 9), 0);
        Due.is("dearer now", x.night(1), 1);
        Due.is("nobody lodges", x.many(3), 0);
    }

    private static void nightRefusals() {
        BarrowNights x = new BarrowNights();
        Due.is("0 nights, no down too", x.night(0), -2);
        Due.is("31 nights, no down too", x.night(31), -2);
        Due.is("no down", x.night(30), -3);
        BarrowNights y = Due.on(Due.FOUR);
        Due.is("0 nights", y.night(0), -2);
        Due.is("31 nights", y.night(31), -2);
        Due.is("least", y.night(Integer.MIN_VALUE), -2);
        Due.is("none went by", y.many(2), 0);
        Due.is("30 nights", y.night(30), 0);
        Due.is("they went by", y.many(2), 30);
    }

    private static void seasonAnswers() {
        BarrowNights x = Due.on(Due.FOUR);
        // 0 to the LONG one (1 penny), 1 to the RING (0), 6 nights, 1 leaves, 2 nights, 1 to the LONG one.
        Due.row(x, 1, 0, 0, 1, 1, 2, 6, 8, 1, 9, 2, 8, 1, 1);
        Due.is("who lodges", x.season(1, 0, 0, 6, 0), 2);
        Due.is("first wrong", x.season(1, 0, 0, 6, 1), -9);
        Due.is("put out", x.season(1, 0, 0, 6, 2), 1);
        Due.is("means of all", x.season(1, 0, 0, 6, 3), 11);
        int[] barrows = {-9, 1, -9, -9, -9};
        int[] cold = {3, 2, 8, 8, -9};
        for (int w = 0; w < 5; w++) {
            Due.is("the barrow of " + w, x.season(1, 0, 0, 6, 10 + w), barrows[w]);
            Due.is("how cold is " + w, x.season(1, 0, 0, 6, 20 + w), cold[w]);
        }
        Due.is("its beginning alone", x.season(1, 0, 0, 3, 0), 2);
        Due.is("from the third pair on: 1 can't leave", x.season(1, 0, 4, 4, 1), 1);
        Due.is("no nights are an act too", x.season(1, 0, 4, 0, 1), -9);
        Due.row(x, 1, 0, 0, 8);
        Due.is("no nights", x.season(1, 0, 0, 1, 20), 0);
    }

    private static void seasonChangesNothing() {
        BarrowNights x = Due.on(Due.FOUR);
        Due.is("lodge", x.lodge(1, 1), 1);
        Due.row(x, 1, 2, 0, 1, 9, 8, 1, 9);
        Due.is("who lodges", x.season(1, 2, 0, 3, 0), -102);
        Due.is("who lodges by two of it", x.season(1, 2, 0, 2, 0), 0);
        Due.is("who lodges", x.ofBarrow(1, 5), 2);
        Due.is("means", x.ofWalker(1, 0), 3);
        Due.is("place", x.ofWalker(0, 1), 4);
        Due.is("cold", x.ofWalker(2, 4), 0);
        Due.is("nights", x.many(2), 0);
        Due.is("who lodge", x.many(3), 1);
    }

    private static void seasonFromNow() {
        BarrowNights x = Due.on(Due.FOUR);
        Due.is("lodge", x.lodge(1, 1), 1);
        Due.is("night", x.night(2), 0);
        Due.is("earn", x.earn(3, 50), 0);
        Due.is("charge", x.charge(1, 0), 1);
        Due.row(x, 3, 1, 9, 8, 1, 9, 3, 1);
        Due.is("who lodges", x.season(3, 1, 0, 3, 0), 8);
        Due.is("means", x.season(3, 1, 0, 3, 3), 64);
        Due.is("cold of one who was cold", x.season(3, 1, 0, 3, 22), 11);
        Due.is("cold of one who lodged", x.season(3, 1, 0, 3, 21), 0);
    }

    private static void seasonFirstWrong() {
        BarrowNights x = Due.on(Due.FOUR);
        int[][] rows = {
            {0, 9}, {0, 0, 0, 0}, {0, 0, 0, 1}, {0, 0, 1, 0}, {2, 0}, {3, 1}, {0, 0, 0, 9, 0, 9}, {0, 8, 1, 8, 2, 9},
        };
        int[] wrong = {0, 1, 1, 1, 0, 0, 2, 2};
        int[] whats = {0, 2, 3, 10, 11, 12, 13, 14, 20, 21, 22, 23, 24};
        for (int r = 0; r < rows.length; r++) {
            Due.makeFault(x);
            Due.row(x, 2, 2, rows[r]);
            int n = rows[r].length / 2;
            Due.faulted(x, "first wrong of row " + r, x.season(2, 2, 0, n, 1), wrong[r], 0);
            for (int what : whats) Due.is("what " + what + " of row " + r, x.season(2, 2, 0, n, what), -100 - wrong[r]);
        }
    }

    private static void seasonRefusals() {
        BarrowNights x = Due.on(Due.FOUR);
        Due.row(x, 1, 2, new int[60]);
        Due.makeFault(x);
        Due.faulted(x, "no such sheet, lane too", x.season(4, 3, 0, 21, 4), -1, 0);
        Due.faulted(x, "no such sheet", x.season(-1, 2, 0, 0, 0), -1, 0);
        Due.makeFault(x);
        Due.faulted(x, "no such lane", x.season(1, 3, 0, 0, 0), -2, 0);
        Due.faulted(x, "no such lane", x.season(1, -1, 0, 0, 0), -2, 0);
        Due.faulted(x, "21 pairs", x.season(1, 2, 0, 21, 0), -2, 0);
        Due.faulted(x, "-1 pairs", x.season(1, 2, 0, -1, 0), -2, 0);
        Due.makeFault(x);
        Due.faulted(x, "outside ahead of a cast", x.season(1, 1, 0, 21, 0), -2, 0);
        for (int what : new int[] {-1, 4, 9, 15, 19, 25, Integer.MIN_VALUE, Integer.MAX_VALUE}) {
            Due.faulted(x, "what " + what, x.season(1, 2, 0, 0, what), -2, 0);
        }
        Due.is("20 pairs", x.season(1, 2, 20, 20, 1), 1);
        BarrowNights y = new BarrowNights();
        Due.row(y, 1, 2, 0, 7);
        Due.makeFault(y);
        Due.faulted(y, "no down, pairs too", y.season(1, 2, 0, 1, 0), -3, 0);
        Due.faulted(y, "no down, no pairs", y.season(1, 2, 0, 0, 0), -3, 0);
        Due.faulted(y, "no down, a fault is ahead of it", y.season(1, 1, 0, 0, 0), -12, 2);
    }

    private static void seasonFaults() {
        BarrowNights x = Due.on(Due.FOUR);
        Due.row(x, 1, 2, 0, 0, 1, 8);
        Due.faulted(x, "another lane, index too", x.season(1, 0, 9, 1, 0), -12, 2);
        Due.faulted(x, "nothing", x.season(2, 0, 9, 1, 0), -11, 1);
        Due.faulted(x, "one pair too many", x.season(1, 2, 0, 3, 0), -13, 3);
        Due.faulted(x, "half a pair too many", x.season(1, 2, 1, 2, 0), -13, 3);
        Due.faulted(x, "from -1 on", x.season(1, 2, -1, 1, 0), -13, 3);
        Due.faulted(x, "none from -1 on", x.season(1, 2, -1, 0, 0), -13, 3);
        Due.faulted(x, "none from behind the end", x.season(1, 2, 5, 0, 0), -13, 3);
        Due.faulted(x, "greatest", x.season(1, 2, Integer.MAX_VALUE, 20, 0), -13, 3);
        Due.faulted(x, "none at the end", x.season(1, 2, 4, 0, 0), 0, 0);
        Due.faulted(x, "from the second pair on", x.season(1, 2, 2, 1, 20), 1, 0);
    }

    private static void seasonPairs() {
        BarrowNights x = Due.on(Due.FOUR);
        int[][] rows = {
            {0, 4}, {0, 5}, {0, 7}, {0, 10}, {0, -1}, {10, 8}, {-1, 8}, {4, 0}, {-1, 9}, {4, 9}, {4, 7},
            {0, 1, 4, 3}, {0, 9, 0, 4}, {0, 9, 4, 9}, {9, 8, 0, 3, 4, 1}, {4, 1, 0, 7}, {0, 7, 4, 1},
        };
        int[] want = {-2, -2, -2, -2, -2, -2, -2, -1, -1, -1, -2, -1, -2, -1, -1, -1, -2};
        for (int r = 0; r < rows.length; r++) {
            Due.row(x, 1, 2, rows[r]);
            Due.makeFault(x);
            Due.faulted(x, "pairs of row " + r, x.season(1, 2, 0, rows[r].length / 2, 1), want[r], 0);
        }
        Due.row(x, 1, 2, 9, 8);
        Due.is("9 nights", x.season(1, 2, 0, 1, 20), 9);
    }

    private static void seasonOtherLanes() {
        for (int lane = 0; lane <= 2; lane++) {
            BarrowNights x = Due.on(Due.FOUR);
            Due.row(x, 1, lane, 77, 0, 0, 3, 8, 0, 9);
            Due.is("who lodges", x.season(1, lane, 1, 2, 0), 0);
            Due.is("put out", x.season(1, lane, 1, 2, 2), 1);
            Due.is("first wrong", x.season(1, lane, 1, 3, 1), 2);
        }
    }
}

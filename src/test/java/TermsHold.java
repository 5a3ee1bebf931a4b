/** What holds parts 1 to 5 of the document's Terms, sentence by sentence, in its order. DocumentTest quotes it. */
final class TermsHold {
    private static final String LETTERS = "rlg";

    private TermsHold() {
    }

    /** A row of ints on sheet 1. */
    private static void told(BarrowNights x, int... values) {
        Due.row(x, 1, 2, values);
    }

    private static int season(BarrowNights x, int what, int... pairs) {
        told(x, pairs);
        return x.season(1, 2, 0, pairs.length / 2, what);
    }

    private static int holds(int kind, int beds) {
        return new int[] {beds, 2 * beds, beds + 1}[kind];
    }

    // ---- 1

    static void barrowsOfAText() {
        StringBuilder text = new StringBuilder("d");
        for (int b = 0; b < 5; b++) {
            text.append(";").append(LETTERS.charAt(b % 3)).append(1 + b % 4).append(9 - b).append(b);
            BarrowNights x = new BarrowNights();
            Due.is("BARROWS", Due.tellDown(x, text + ",123"), b + 1);
            for (int one = 0; one <= b; one++) {
                Due.is("BEDS of " + one, x.ofBarrow(one, 1), 1 + one % 4);
                Due.is("PENCE of " + one, x.ofBarrow(one, 2), 9 - one);
                Due.is("PLACE of " + one, x.ofBarrow(one, 3), one);
            }
        }
        for (int digit = 0; digit <= 9; digit++) {
            BarrowNights x = new BarrowNights();
            boolean beds = digit >= 1 && digit <= 4;
            Due.is("BEDS " + digit, Due.tellDown(x, "d;r" + digit + "00,001"), beds ? 1 : -103);
            Due.is("PENCE " + digit, Due.on("d;r1" + digit + "0,001").ofBarrow(0, 2), digit);
            Due.is("PLACE " + digit, Due.on("d;r10" + digit + ",001").ofBarrow(0, 3), digit);
        }
        broken("d,001", 1);
    }

    static void walkersOfAText() {
        StringBuilder text = new StringBuilder("d;r100");
        for (int w = 0; w < 5; w++) {
            text.append(",").append(9 - w).append(2 * w).append(1 + w);
            BarrowNights x = Due.on(text.toString());
            Due.is("WALKERS", x.many(1), w + 1);
            for (int one = 0; one <= w; one++) {
                Due.is("MEANS of " + one, x.ofWalker(one, 0), 9 - one);
                Due.is("PLACE of " + one, x.ofWalker(one, 1), 2 * one);
                Due.is("REACH of " + one, x.ofWalker(one, 2), 1 + one);
            }
        }
        for (int digit = 0; digit <= 9; digit++) {
            BarrowNights x = new BarrowNights();
            Due.is("REACH " + digit, Due.tellDown(x, "d;r100,00" + digit), digit > 0 ? 1 : -109);
            Due.is("MEANS " + digit, Due.on("d;r100," + digit + "01").ofWalker(0, 0), digit);
            Due.is("PLACE " + digit, Due.on("d;r100,0" + digit + "1").ofWalker(0, 1), digit);
        }
        broken("d;r100", 6);
    }

    private static void broken(String text, int place) {
        BarrowNights x = new BarrowNights();
        Due.is("FIRST FAULT of " + text, Due.tellDown(x, text), -100 - place);
        Due.is("no DOWN by " + text, x.many(0), 0);
    }

    static void firstFault() {
        broken("x;r100,001", 0);
        broken("dx", 1);
        broken("d;x00", 2);
        broken("d;r900,999x", 3);
        broken("d;r1x0,001", 4);
        broken("d;r10x,001", 5);
        broken("d;r100x001", 6);
        broken("d;r100,x01", 7);
        broken("d;r100,0x1", 8);
        broken("d;r100,00x", 9);
        broken("d;r100,001x", 10);
        broken("d" + ";r100".repeat(6) + ",001", 26);
        broken("d" + ";r100".repeat(5) + ",001;r100", 30);
        broken("d;r100,001;r100,001", 10);
        broken("d;r100" + ",001".repeat(6), 26);
    }

    static void endsTooSoon() {
        String whole = "d;r111;l222,345,678";
        for (int n = 0; n <= whole.length(); n++) {
            if (n == 15 || n == 19) Due.is("a TEXT", Due.tellDown(new BarrowNights(), whole.substring(0, n)), 2);
            else broken(whole.substring(0, n), n);
        }
    }

    static void codes() {
        int[] text = {100, 59, 114, 49, 48, 57, 59, 108, 50, 49, 50, 59, 103, 52, 51, 52, 44, 53, 54, 55, 44, 56, 57, 49};
        BarrowNights x = new BarrowNights();
        Due.row(x, 2, 1, text);
        Due.is("a TEXT by its codes", x.down(2, 1, 0, text.length), 3);
        int[][] barrows = {{0, 1, 0, 9}, {1, 2, 1, 2}, {2, 4, 3, 4}};
        for (int b = 0; b < 3; b++) {
            for (int what = 0; what < 4; what++) Due.is("of BARROW " + b, x.ofBarrow(b, what), barrows[b][what]);
        }
        int[][] walkers = {{5, 6, 7}, {8, 9, 1}};
        for (int w = 0; w < 2; w++) {
            for (int what = 0; what < 3; what++) Due.is("of WALKER " + w, x.ofWalker(w, what), walkers[w][what]);
        }
        for (int place = 0; place < 10; place++) codesAt(place);
    }

    /** In the TEXT d;r100,001 each code of a byte, and one that would be right if it were cut, at one place. */
    private static void codesAt(int place) {
        int[] text = {100, 59, 114, 49, 48, 48, 44, 48, 48, 49};
        int[][] goOn = {{100}, {59}, {103, 108, 114}, digits(1, 4), digits(0, 9), digits(0, 9), {44}, digits(0, 9), digits(0, 9), digits(1, 9)};
        int right = text[place];
        for (int code = -128; code <= 128; code++) {
            text[place] = code == 128 ? 256 + right : code;
            BarrowNights x = new BarrowNights();
            Due.row(x, 2, 2, text);
            // With a ; in place of the , the TEXT goes on with a BARROW, and breaks at the next code.
            int want = place == 6 && code == 59 ? -107 : -100 - place;
            Due.is("code " + text[place] + " at " + place, x.down(2, 2, 0, 10), has(goOn[place], text[place]) ? 1 : want);
        }
    }

    private static int[] digits(int least, int most) {
        int[] codes = new int[most - least + 1];
        for (int d = least; d <= most; d++) codes[d - least] = 48 + d;
        return codes;
    }

    private static boolean has(int[] all, int one) {
        for (int other : all) if (other == one) return true;
        return false;
    }

    static void kinds() {
        BarrowNights x = Due.on("d;r100;l100;g100,001");
        int[][] as = {{1, -12, -12}, {1, 1, -12}, {1, 1, 1}};
        for (int b = 0; b < 3; b++) {
            Due.is("kind of " + b, x.ofBarrow(b, 0), b);
            for (int kind = 0; kind < 3; kind++) Due.is("one of kind " + kind, x.as(b, kind), as[b][kind]);
        }
    }

    static void aTextMakesAllAnew() {
        BarrowNights x = Edge.busy();
        Due.is("the same TEXT", x.down(0, 0, 0, 37), 4);
        Due.is("NIGHTS", x.many(2), 0);
        Due.is("who lodge", x.many(3), 0);
        Due.is("READINGS", x.many(4), 0);
        int[][] want = {{5, 4, 3, -9, 0, -9}, {3, 2, 9, -9, 0, -9}, {8, 1, 1, -9, 0, -9}, {0, 2, 5, -9, 0, -9}};
        for (int w = 0; w < 4; w++) {
            for (int what = 0; what < 6; what++) Due.is("of WALKER " + w, x.ofWalker(w, what), want[w][what]);
        }
        for (int b = 0; b < 4; b++) {
            Due.is("nobody lodges in " + b, x.ofBarrow(b, 5), 0);
            Due.is("no READING of " + b, x.rooms(b), 30);
        }
        Due.is("charge", x.charge(0, 9), 2);
        Due.is("a smaller DOWN", Due.tellDown(x, "d;r135,789"), 1);
        Due.is("BARROWS", x.many(0), 1);
        Due.is("WALKERS", x.many(1), 1);
        Due.is("PENCE", x.ofBarrow(0, 2), 3);
    }

    static void holds() {
        for (int kind = 0; kind < 3; kind++) {
            for (int beds = 1; beds <= 4; beds++) {
                int holds = holds(kind, beds);
                BarrowNights x = Due.on("d;" + LETTERS.charAt(kind) + beds + "00" + ",001".repeat(5));
                Due.is("HOLDS", x.ofBarrow(0, 4), holds);
                for (int w = 0; w < 5; w++) Due.is("there may be " + holds, x.lodge(w, 0), w < holds ? w + 1 : -3);
            }
        }
    }

    // ---- 2

    static void lodgesWithinReach() {
        for (int from = 0; from <= 9; from++) {
            for (int to = 0; to <= 9; to++) {
                for (int reach = 1; reach <= 9; reach++) {
                    BarrowNights x = Due.on("d;r10" + to + ",0" + from + reach);
                    Due.is("from " + from + " to " + to + " by " + reach, x.lodge(0, 0), Math.abs(from - to) <= reach ? 1 : -3);
                }
            }
        }
        BarrowNights x = Due.on("d;l400;r100,001");
        Due.is("it does not lodge", x.lodge(0, 0), 1);
        Due.is("it lodges there", x.lodge(0, 0), -3);
        Due.is("it lodges elsewhere", x.lodge(0, 1), -3);
    }

    static void lodgesByMeans() {
        for (int pence = 0; pence <= 9; pence++) {
            for (int means = 0; means <= 9; means++) {
                BarrowNights x = Due.on("d;r1" + pence + "0," + means + "01");
                Due.is("PENCE " + pence + ", MEANS " + means, x.lodge(0, 0), pence <= means ? 1 : -3);
                Due.is("none are paid yet", x.ofWalker(0, 0), means);
            }
        }
    }

    static void lodgesByRoom() {
        BarrowNights x = Due.on("d;g100,001,001,001");
        Due.is("the first", x.lodge(2, 0), 1);
        Due.is("the second", x.lodge(0, 0), 2);
        Due.is("no room", x.lodge(1, 0), -3);
        Due.is("it does not lodge", x.ofWalker(1, 3), -9);
        Due.is("one leaves", x.leave(2), 0);
        Due.is("room", x.lodge(1, 0), 2);
    }

    static void placeIsThenTheBarrows() {
        BarrowNights x = Due.on("d;r107;r109,053,024");
        Due.is("it can't", x.lodge(1, 0), -3);
        Due.is("its PLACE stays", x.ofWalker(1, 1), 2);
        Due.is("too far yet", x.lodge(0, 1), -3);
        Due.is("it LODGES", x.lodge(0, 0), 1);
        Due.is("its PLACE", x.ofWalker(0, 1), 7);
    }

    static void leaves() {
        BarrowNights x = Due.on("d;r107;r109,053");
        Due.is("it does not lodge", x.leave(0), -3);
        Due.is("it LODGES", x.lodge(0, 0), 1);
        Due.is("it LEAVES", x.leave(0), 0);
        Due.is("it does not lodge", x.ofWalker(0, 3), -9);
        Due.is("it stays at that PLACE", x.ofWalker(0, 1), 7);
        Due.is("so this is near", x.lodge(0, 1), 1);
    }

    static void lodgersPay() {
        BarrowNights x = Due.on("d;l220;r130,901,801,701,601");
        for (int w = 0; w < 2; w++) Due.is("lodge", x.lodge(w, 0), w + 1);
        Due.is("lodge", x.lodge(2, 1), 1);
        Due.is("a NIGHT", x.night(1), 0);
        int[] once = {7, 6, 4, 6};
        for (int w = 0; w < 4; w++) Due.is("MEANS of " + w, x.ofWalker(w, 0), once[w]);
        Due.is("PENCE are more", x.charge(0, 3), 2);
        Due.is("a NIGHT", x.night(1), 0);
        int[] twice = {4, 3, 1, 6};
        for (int w = 0; w < 4; w++) Due.is("MEANS of " + w, x.ofWalker(w, 0), twice[w]);
        Due.is("NIGHTS", x.many(2), 2);
    }

    static void whoHasNotSoManyIsPutOut() {
        BarrowNights x = Due.on("d;l220,501,401,301");
        for (int w = 0; w < 3; w++) Due.is("lodge", x.lodge(w, 0), w + 1);
        Due.is("a NIGHT", x.night(1), 0);
        Due.is("the next puts out 2", x.night(1), 1);
        int[] means = {1, 0, 1};
        int[] barrow = {0, 0, -9};
        for (int w = 0; w < 3; w++) {
            Due.is("MEANS of " + w, x.ofWalker(w, 0), means[w]);
            Due.is("BARROW of " + w, x.ofWalker(w, 3), barrow[w]);
        }
        Due.is("its lodgers", x.ofBarrow(0, 5), 3);
        Due.is("the next puts out 0 and 1", x.night(1), 2);
        Due.is("nobody lodges", x.many(3), 0);
        Due.is("nobody is put out", x.night(1), 0);
    }

    static void whoDoesNotLodgeIsColder() {
        BarrowNights x = Due.on("d;r110;r100,101,001,001");
        Due.is("lodge", x.lodge(0, 0), 1);
        Due.is("lodge", x.lodge(1, 1), 1);
        int[][] cold = {{0, 0, 1}, {1, 0, 2}, {2, 0, 3}};
        for (int night = 0; night < 3; night++) {
            Due.is("PUT OUT", x.night(1), night == 1 ? 1 : 0);
            for (int w = 0; w < 3; w++) Due.is("COLD " + w, x.ofWalker(w, 4), cold[night][w]);
        }
    }

    static void dreamOfTheGreatestBelow() {
        BarrowNights x = Due.on("d;l400;r100,001,001,001,001,001");
        for (int w : new int[] {4, 0, 3, 1}) Due.holds("lodge", x.lodge(w, 0) > 0);
        Due.is("lodge elsewhere", x.lodge(2, 1), 1);
        int[] want = {10, 0, 11, 1, 3};
        for (int w = 0; w < 5; w++) Due.is("DREAM of " + w, x.ofWalker(w, 5), want[w]);
        Due.is("leave", x.leave(3), 0);
        Due.is("DREAM of 4", x.ofWalker(4, 5), 1);
        Due.is("DREAM of 3", x.ofWalker(3, 5), -9);
    }

    static void dreamOfTheLandlord() {
        BarrowNights x = Due.on("d" + ";r100".repeat(5) + ",001".repeat(5));
        for (int w = 0; w < 5; w++) Due.is("lodge", x.lodge(w, 4 - w), 1);
        for (int w = 0; w < 5; w++) Due.is("DREAM of " + w, x.ofWalker(w, 5), 14 - w);
    }

    /** A season's acts come one behind another, each from how the one ahead left all; none is left behind. */
    static void aSeasonIsFromNow() {
        BarrowNights x = Edge.busy();
        int[] pairs = {2, 2, 1, 9, 3, 2, 2, 8, 0, 9};
        Due.is("who lodges", season(x, 0, pairs), 4 + 8);
        Due.is("MEANS together", x.season(1, 2, 0, 5, 3), 1 + 3 + 8 + 0);
        int[] cold = {0, 2, 2, 2};
        for (int w = 0; w < 4; w++) Due.is("COLD " + w, x.season(1, 2, 0, 5, 20 + w), cold[w]);
        Edge.still("a SEASON changes nothing", () -> {
            BarrowNights y = Edge.busy();
            told(y, pairs);
            return y;
        }, y -> y.season(1, 2, 0, 5, 0), 12, 0);
    }

    static void seasonLodges() {
        BarrowNights x = Due.on("d;r107;r109,053,022");
        Due.is("there", season(x, 10, 0, 0), 0);
        Due.is("too far", season(x, 1, 0, 1), 0);
        Due.is("not too far from there", season(x, 10, 0, 0, 0, 9, 0, 1), 1);
        Due.is("another one can't", season(x, 1, 0, 0, 1, 0), 1);
    }

    static void seasonNights() {
        for (int n = 0; n <= 9; n++) {
            BarrowNights x = Due.on("d;r110,301,001");
            Due.is("so many NIGHTS", season(x, 21, 0, 0, n, 8), n);
            Due.is("paid", x.season(1, 2, 0, 2, 3), Math.max(0, 3 - n));
            Due.is("PUT OUT", x.season(1, 2, 0, 2, 2), n > 3 ? 1 : 0);
        }
    }

    static void seasonLeaves() {
        BarrowNights x = Edge.busy();
        Due.is("it LEAVES", season(x, 0, 0, 9), 2);
        Due.is("the other LEAVES", season(x, 0, 1, 9), 1);
        Due.is("who does not lodge can't", season(x, 1, 2, 9), 0);
    }

    static void firstWrong() {
        BarrowNights x = Edge.busy();
        Due.is("none", season(x, 1, 0, 9, 1, 9, 9, 8), -9);
        Due.is("the second LEAVE", season(x, 1, 0, 9, 1, 8, 0, 9, 0, 9), 2);
        Due.is("it lodges", season(x, 1, 1, 8, 0, 1), 1);
        Due.is("too far", season(x, 1, 2, 0), 0);
        Due.is("too dear", season(x, 1, 3, 0), 0);
        Due.is("no room", season(x, 1, 2, 2, 3, 2, 0, 9, 9, 8, 2, 9, 1, 9, 1, 0, 0, 0), 7);
    }

    // ---- 3

    /** How many, the PENCE, and the BARROW of each WALKER. */
    private static void housed(BarrowNights x, int most, int pence, int... row) {
        Due.is("how many", x.housed(-2), most);
        Due.is("PENCE", x.housed(-1), pence);
        for (int w = 0; w < row.length; w++) Due.is("the BARROW of " + w, x.housed(w), row[w]);
    }

    static void housedWhereItCould() {
        housed(Due.on("d;r105,032"), 1, 0, 0);
        housed(Due.on("d;r105,022"), 0, 0, -9);
        housed(Due.on("d;r150,501"), 1, 5, 0);
        housed(Due.on("d;r150,401"), 0, 0, -9);
        BarrowNights x = Due.on("d;r105;r108,053");
        housed(x, 1, 0, 0);
        Due.is("lodge", x.lodge(0, 1), 1);
        Due.is("dear now", x.charge(0, 1), 0);
        housed(x, 1, 0, 1);
        BarrowNights y = Due.on("d;r100,001,001");
        Due.is("lodge", y.lodge(1, 0), 1);
        housed(y, 1, 0, 0, -9);
        BarrowNights z = Due.on("d;r100;r104;r108,044,042");
        Due.is("from where it is", z.housed(0), 0);
        Due.is("lodge", z.lodge(0, 2), 1);
        housed(z, 2, 0, 2, 1);
    }

    static void housedByRoom() {
        for (int kind = 0; kind < 3; kind++) {
            for (int beds = 1; beds <= 4; beds++) {
                int most = Math.min(5, holds(kind, beds));
                BarrowNights x = Due.on("d;" + LETTERS.charAt(kind) + beds + "10" + ",101".repeat(5));
                Due.is("how many", x.housed(-2), most);
                Due.is("PENCE", x.housed(-1), most);
                for (int w = 0; w < 5; w++) Due.is("the BARROW of " + w, x.housed(w), w < most ? 0 : -9);
            }
        }
    }

    static void housedTheMost() {
        housed(Due.on("d;r100;r190,901,001"), 2, 9, 1, 0);
        housed(Due.on("d;r109;r108,009,081,001"), 2, 0, 0, 1, -9);
    }

    static void housedByTheFewestPence() {
        housed(Due.on("d;r190;r110;r120,901,901"), 2, 3, 1, 2);
        housed(Due.on("d;r230;l110,901,901,901"), 3, 5, 0, 1, 1);
        housed(Due.on("d;r120;r110,901"), 1, 1, 1);
    }

    static void housedFirstAsARow() {
        housed(Due.on("d;r110;r110;r110,901,901"), 2, 2, 0, 1);
        housed(Due.on("d;r110,901,901"), 1, 1, 0, -9);
        housed(Due.on("d;r110;r120,901,901,901"), 2, 3, 0, 1, -9);
        housed(Due.on("d" + ";r100".repeat(5) + ",001".repeat(5)), 5, 0, 0, 1, 2, 3, 4);
    }

    static void ploughed() {
        BarrowNights x = Due.on("d;r100;l105;g105,005,051,051,051");
        int[] want = {4, 3, 3};
        for (int b = 0; b < 3; b++) Due.is("without " + b, x.ploughed(b), want[b]);
        Due.is("with all", x.housed(-2), 4);
        Due.is("without the only one", Due.on("d;l400,001").ploughed(0), 0);
    }

    /** Every way of so many barrows, one behind another, is tried: the fewest are told. */
    static void wayOfTheFewest() {
        BarrowNights x = Due.on("d;r101;r102;r103;r104;r105,001,002,005");
        int[][] want = {{0, 0, 1, 2, 3, 4, 5, -9, -9, -9}, {0, 0, 0, 1, 1, 2, 2, 3, -9, -9}, {0, 0, 0, 0, 0, 0, 1, 1, 1, 1}};
        for (int w = 0; w < 3; w++) {
            for (int place = 0; place <= 9; place++) Due.is("WAY of " + w + " to " + place, x.way(w, place), want[w][place]);
        }
        Due.is("two at one PLACE", Due.on("d;r103;l203,003").way(0, 6), 1);
    }

    static void wayIsNoFartherFromTheOneAhead() {
        Due.is("the first, near", Due.on("d;r102,002").way(0, 4), 1);
        Due.is("the first, too far", Due.on("d;r103,002").way(0, 4), -9);
        Due.is("the next, near", Due.on("d;r102;r104,002").way(0, 6), 2);
        Due.is("the next, too far", Due.on("d;r102;r105,002").way(0, 6), -9);
        Due.is("back and forth", Due.on("d;r103;r105,051").way(0, 3), -9);
        BarrowNights x = Due.on("d;r102;r104,002");
        Due.is("lodge", x.lodge(0, 0), 1);
        Due.is("from where it is", x.way(0, 6), 1);
    }

    static void wayEndsWithinReach() {
        Due.is("from where it is", Due.on("d;r109,003").way(0, 3), 0);
        Due.is("1 farther", Due.on("d;r109,003").way(0, 4), -9);
        Due.is("from the last one", Due.on("d;r103,003").way(0, 6), 1);
        Due.is("1 farther", Due.on("d;r103,003").way(0, 7), -9);
        Due.is("down to 0", Due.on("d;r106,093").way(0, 3), 1);
        Due.is("1 farther", Due.on("d;r106,093").way(0, 2), -9);
    }

    static void thereIsNoWay() {
        BarrowNights x = Due.on("d;r109,001");
        for (int place = 0; place <= 9; place++) Due.is("WAY to " + place, x.way(0, place), place <= 1 ? 0 : -9);
    }

    static void wayWhateverTheyAskAndHold() {
        BarrowNights x = Due.on("d;r102;r104,022,002");
        Due.is("lodge", x.lodge(0, 0), 1);
        Due.is("dear now", x.charge(1, 9), 0);
        Due.is("full and dear", x.way(1, 6), 2);
    }

    /** How many ways there are by such dreams, and the first of them, if there is one. */
    private static void lain(BarrowNights x, int[] dreams, int ways, int... row) {
        told(x, dreams);
        Due.is("ways", x.lain(1, 2, 0, -1), ways);
        for (int w = 0; w < 5; w++) Due.is("the BARROW of " + w, x.lain(1, 2, 0, w), w < row.length ? row[w] : -9);
    }

    private static int[] dreams(int... all) {
        return all;
    }

    static void lainNoneIsAny() {
        BarrowNights x = Due.on("d;l100;r400,001,001");
        lain(x, dreams(-9, -9), 9, 0, 0);
        lain(x, dreams(10, -9), 3, 0, 0);
        lain(x, dreams(-9, 11), 2, 0, 1);
        lain(x, dreams(-9, 0), 2, 0, 0);
        lain(x, dreams(99, -9), 3, -9, 0);
        lain(x, dreams(-9, 99), 3, 0, -9);
    }

    static void lainInABarrowOrNone() {
        BarrowNights x = Due.on("d;l100;r400,001,001");
        lain(x, dreams(99, 99), 1, -9, -9);
        lain(x, dreams(11, 99), 1, 1, -9);
        lain(x, dreams(99, 10), 1, -9, 0);
        lain(x, dreams(99, 0), 0);
        lain(x, dreams(12, 99), 0);
    }

    static void lainByRoom() {
        BarrowNights x = Due.on("d;g100,001,001,001");
        lain(x, dreams(10, 0, 99), 1, 0, 0, -9);
        lain(x, dreams(10, 0, 1), 0);
        lain(x, dreams(10, 0, -9), 1, 0, 0, -9);
        lain(x, dreams(-9, -9, -9), 7, 0, 0, -9);
    }

    static void lainAsTold() {
        BarrowNights x = Due.on("d;l400;l400;l400,001,001,001");
        lain(x, dreams(10, 11, 0), 1, 0, 1, 0);
        lain(x, dreams(10, 11, 1), 1, 0, 1, 1);
        lain(x, dreams(12, 0, 1), 1, 2, 2, 2);
        lain(x, dreams(12, 0, 0), 0);
        lain(x, dreams(0, 10, 11), 0);
        lain(x, dreams(10, 10, 11), 0);
        lain(x, dreams(-9, -9, 0), 3 * 3, 0, 1, 0);
        lain(x, dreams(-9, -9, -9), 64, 0, 0, 0);
    }

    static void lainFirstAsARow() {
        BarrowNights x = Due.on("d;r100;r100,001,001,001");
        lain(x, dreams(-9, -9, -9), 13, 0, 1, -9);
        lain(x, dreams(-9, 10, -9), 3, 1, 0, -9);
        lain(x, dreams(-9, -9, 11), 3, 0, -9, 1);
        BarrowNights y = Due.on("d" + ";r100".repeat(5) + ",001".repeat(5));
        lain(y, dreams(14, -9, -9, -9, -9), 209, 4, 0, 1, 2, 3);
    }

    static void lainReachPenceAside() {
        BarrowNights x = Due.on("d;r299,001,001");
        Due.is("it can't", x.lodge(0, 0), -3);
        lain(x, dreams(10, 0), 1, 0, 0);
        BarrowNights y = Due.on("d;r100,001,001");
        Due.is("lodge", y.lodge(0, 0), 1);
        lain(y, dreams(99, 10), 1, -9, 0);
    }

    // ---- 4

    static void readingsAreNumbered() {
        BarrowNights x = Due.on("d;r100;r100,001");
        for (int r = 0; r < 8; r++) Due.is("its number", x.reading(r % 2, 9, 1), r);
        Due.is("8 at most", x.reading(0, 9, 1), -4);
        Due.is("back", x.back(3), 5);
        Due.is("its number", x.reading(0, 9, 1), 5);
    }

    static void fullIsHoldsNoMore() {
        for (int kind = 0; kind < 3; kind++) {
            for (int lodgers = 0; lodgers <= 9; lodgers++) {
                for (int full = 0; full <= 1; full++) {
                    BarrowNights x = Due.on("d;" + LETTERS.charAt(kind) + "100,001");
                    Due.is("reading", x.reading(0, lodgers, full), 0);
                    int set = 0;
                    for (int beds = 1; beds <= 4; beds++) {
                        boolean isFull = holds(kind, beds) <= lodgers;
                        if (isFull == (full == 1)) set += 1 << beds;
                    }
                    Due.is("BEDS by " + lodgers + ", " + full, x.rooms(0), set);
                }
            }
        }
    }

    /** A READING of another BARROW that is not so, as that one is, can't be mended by this one. */
    static void inPlaceOfWhatItIsAlone() {
        BarrowNights x = Due.on("d;r200;l100,001");
        Due.is("so of 0", x.reading(0, 2, 1), 0);
        Due.is("rooms of 1", x.rooms(1), 30);
        Due.is("kinds of 1", x.kinds(1), 7);
        Due.is("not so of 0", x.reading(0, 1, 1), 1);
        Due.is("rooms of 1", x.rooms(1), 0);
        Due.is("kinds of 1", x.kinds(1), 0);
        Due.is("rooms of 0", x.rooms(0), 2);
        Due.is("kinds of 0: 2 beds", x.kinds(0), 0);
        Due.is("not so with that", x.reading(0, 1, 0), 2);
        Due.is("rooms of 0", x.rooms(0), 0);
    }

    static void rooms() {
        BarrowNights x = Due.on("d;r100;l100;g100,001");
        for (int b = 0; b < 3; b++) Due.is("any", x.rooms(b), 2 + 4 + 8 + 16);
        Due.is("it holds 3 or more", x.reading(0, 2, 0), 0);
        Due.is("BEDS 3, 4", x.rooms(0), 8 + 16);
        Due.is("it holds 3 or fewer", x.reading(0, 3, 1), 1);
        Due.is("BEDS 3", x.rooms(0), 8);
        Due.is("back", x.back(2), 0);
        Due.is("a LONG one holds more than 5", x.reading(1, 5, 0), 0);
        Due.is("BEDS 3, 4", x.rooms(1), 8 + 16);
        Due.is("back", x.back(1), 0);
        Due.is("a RING holds 4 or fewer", x.reading(2, 4, 1), 0);
        Due.is("BEDS 1, 2, 3", x.rooms(2), 2 + 4 + 8);
    }

    static void kindsOfABarrow() {
        BarrowNights x = Due.on("d;r300,001");
        Due.is("any", x.kinds(0), 7);
        Due.is("it holds more than 3", x.reading(0, 3, 0), 0);
        Due.is("LONG, RING", x.kinds(0), 2 + 4);
        Due.is("it holds more than 4", x.reading(0, 4, 0), 1);
        Due.is("LONG", x.kinds(0), 2);
        Due.is("back", x.back(2), 0);
        Due.is("it holds 4 or fewer", x.reading(0, 4, 1), 0);
        Due.is("ROUND, RING", x.kinds(0), 1 + 4);
        Due.is("it holds 3 or fewer", x.reading(0, 3, 1), 1);
        Due.is("ROUND", x.kinds(0), 1);
    }

    private static void odds(String text, long upper, long lower) {
        BarrowNights x = Due.on(text);
        Due.is("upper of " + text, x.odds(0, 0), upper);
        Due.is("lower of " + text, x.odds(0, 1), lower);
    }

    static void oddsAsEachLiesAnywhere() {
        for (int barrows = 1; barrows <= 5; barrows++) odds("d" + ";r100".repeat(barrows) + ",001", 1, barrows + 1);
        odds("d;r199,001", 1, 2);
        BarrowNights x = Due.on("d;r100;r100,001,001");
        Due.is("lodge", x.lodge(0, 0), 1);
        Due.is("whoever lodges", x.odds(0, 0), 5);
        Due.is("whoever lodges", x.odds(0, 1), 9);
    }

    static void oddsOfAsManyOrMore() {
        odds("d;r200,001,001,001", 1, 2);
        odds("d;r300,001,001,001", 1, 8);
        odds("d;r400,001,001,001", 0, 1);
        odds("d;g200;r100,001,001,001,001", 1, 9);
        odds("d;l200;r100,001,001,001,001", 1, 81);
    }

    // ---- 5

    static void sheetsAtFirst() {
        BarrowNights x = new BarrowNights();
        for (int k = 0; k <= 3; k++) Due.is("SHEET " + k + " has nothing", x.lose(k), 0);
        for (int n = 0; n <= 60; n++) {
            int lane = n % 3;
            Due.is("a row of " + n, x.sheet(n % 4, lane, n), 1);
            if (n > 0) Due.is("0 at first", x.cell(n % 4, n - 1, lane), 0);
            Due.is("no more cells", x.cell(n % 4, n, lane), Long.MIN_VALUE);
            if (n > 0) Due.is("a number", x.put(n % 4, n - 1, 77), 1);
        }
        Due.is("61 are too many", x.sheet(0, 0, 61), -2);
        Due.is("a row of 60", x.sheet(0, 1, 60), 1);
        for (int i = 0; i < 60; i++) Due.is("0 again", x.cell(0, i, 1), 0);
    }

    static void cutToTheLane() {
        int[] values = {127, 128, 255, 256, -129, 32767, 32768, 65535, 65536, -32769, Integer.MAX_VALUE, Integer.MIN_VALUE};
        BarrowNights x = new BarrowNights();
        for (int lane = 0; lane <= 2; lane++) Due.is("sheet", x.sheet(lane, lane, 1), 1);
        for (int v : values) {
            for (int lane = 0; lane <= 2; lane++) {
                long cut = lane == 0 ? (byte) v : lane == 1 ? (short) v : v;
                Due.is("put", x.put(lane, 0, v), 1);
                Due.is(v + " in lane " + lane, x.cell(lane, 0, lane), cut);
            }
        }
    }

    /** How the bodies leave their numbers, one behind another. */
    private static int traced(int before, int... bodies) {
        int trace = before;
        for (int body : bodies) trace = trace * 31 + body;
        return trace;
    }

    static void traceOfBodies() {
        BarrowNights x = Due.on("d;r100;l100;g100,001");
        Due.is("0 at first", x.trace(), 0);
        int want = 0;
        for (int t = 0; t < 10; t++) {
            x.tell(2);
            want = traced(want, 3, 2, 1, 1);
            Due.is("as they begin", x.trace(), want);
            x.haunt(0);
            want = traced(want, 4);
            Due.is("31 times it and the number", x.trace(), want);
        }
        Due.holds("it wrapped: 31 to the tenth is far above an int", Math.abs((long) want) <= 1L << 31);
    }

    private static void telling(char letter, int beds, int want, int... bodies) {
        BarrowNights x = Due.on("d;" + letter + beds + "00,001");
        Due.is("TELLING of " + letter + beds, x.tell(0), want);
        Due.is("its bodies", x.trace(), traced(0, bodies));
    }

    static void tellingOfARound() {
        for (int beds = 1; beds <= 4; beds++) telling('r', beds, beds, 1);
    }

    static void tellingOfALong() {
        for (int beds = 1; beds <= 4; beds++) telling('l', beds, beds + 100, 2, 1);
    }

    static void tellingOfARing() {
        for (int beds = 1; beds <= 4; beds++) telling('g', beds, beds + 100 + beds, 3, 2, 1, 1);
    }

    private static void haunted(char letter, boolean own) {
        for (int b = 0; b < 5; b++) {
            BarrowNights x = Due.on("d" + (";" + letter + "300").repeat(5) + ",001");
            Due.is("HAUNTED is " + letter, x.haunt(b), own ? 70 : b);
            Due.is("its body", x.trace(), own ? 5 : 4);
        }
    }

    /** "its number" is taken as the BARROW's. */
    static void hauntedByALentBody() {
        haunted('r', false);
        haunted('l', false);
    }

    static void ringsHaveTheirOwn() {
        haunted('g', true);
    }
}

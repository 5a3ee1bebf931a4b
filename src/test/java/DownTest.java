/** Promises 1 to 6: a new object, down, ofBarrow, ofWalker, charge, earn. */
public final class DownTest {
    public static void main(String[] args) {
        newObject();
        textIsTaken();
        largestText();
        firstFaults();
        textKeepsAllWhenBroken();
        textMakesAllAnew();
        downFromOtherLanesAndPlaces();
        downOfAWholeSheet();
        downRefusals();
        downFaults();
        ofBarrow();
        ofWalker();
        charge();
        earn();
        Due.end();
    }

    private static void newObject() {
        BarrowNights x = new BarrowNights();
        for (int what = 0; what <= 4; what++) Due.is("many of a new object", x.many(what), 0);
        for (int k = 0; k <= 3; k++) {
            Due.is("lose of a new object", x.lose(k), 0);
            Due.is("put of a new object", x.put(k, 0, 1), -11);
        }
        BarrowNights y = new BarrowNights();
        Due.is("fault of a new object", y.fault(), 0);
        Due.is("trace of a new object", y.trace(), 0);
        Due.is("barrow of a new object", y.ofBarrow(0, 0), -1);
        Due.is("walker of a new object", y.ofWalker(0, 0), -1);
    }

    private static void textIsTaken() {
        BarrowNights x = new BarrowNights();
        Due.is("one barrow", Due.tellDown(x, "d;r100,001"), 1);
        Due.is("two barrows", Due.tellDown(x, "d;r100;l499,001"), 2);
        Due.is("three barrows", Due.tellDown(x, "d;r100;l499;g255,001"), 3);
        Due.is("four barrows", Due.tellDown(x, Due.FOUR), 4);
        Due.is("fault() of a taken text", x.fault(), 0);
        Due.is("how many barrows", x.many(0), 4);
        Due.is("how many walkers", x.many(1), 4);
    }

    private static void largestText() {
        BarrowNights x = new BarrowNights();
        Due.is("five of each", Due.tellDown(x, "d;r111;l222;g333;r444;l155,111,222,333,444,555"), 5);
        Due.is("barrows", x.many(0), 5);
        Due.is("walkers", x.many(1), 5);
        Due.is("kind of the last", x.ofBarrow(4, 0), 1);
        Due.is("place of the last", x.ofBarrow(4, 3), 5);
        Due.is("reach of the last", x.ofWalker(4, 2), 5);
    }

    private static void firstFaults() {
        // Each text with the place of its first fault; where that is its length, it ends too soon.
        String[] texts = {
            "", "x", "r", "d", "d,", "dd", "d;", "d;x", "d;r", "d;l", "d;g", "d;r0", "d;r5", "d;rr", "d;r1", "d;r1x",
            "d;r1/", "d;r1:", "d;r12", "d;r12x", "d;r123", "d;r123x", "d;r123d", "d;r123;", "d;r123,", "d;r123,x",
            "d;r123,4", "d;r123,4x", "d;r123,45", "d;r123,450", "d;r123,45x", "d;r123,456x", "d;r123,456;", "d;r123,456,",
            "d;r123,456,789;", "d;r123,456,78", "d;r123;r123;r123;r123;r123", "d;r123;r123;r123;r123;r123;r123,456",
            "d;r123,456,456,456,456,456,456", "d;r123,456,456,456,456,456x", "d;R123,456", "D;r123,456", "d;r123;x",
        };
        int[] places = {
            0, 0, 0, 1, 1, 1, 2, 2, 3, 3, 3, 3, 3, 3, 4, 4,
            4, 4, 5, 5, 6, 6, 6, 7, 7, 7,
            8, 8, 9, 9, 9, 10, 10, 11,
            14, 13, 26, 26,
            26, 26, 2, 0, 7,
        };
        Due.is("as many texts as places", texts.length, places.length);
        for (int t = 0; t < texts.length; t++) {
            BarrowNights x = new BarrowNights();
            Due.makeFault(x);
            Due.faulted(x, "down by " + texts[t], Due.tellDown(x, texts[t]), -100 - places[t], 0);
            Due.is("no down by " + texts[t], x.many(0), 0);
        }
    }

    private static void textKeepsAllWhenBroken() {
        BarrowNights x = Due.on(Due.FOUR);
        Due.is("lodge", x.lodge(0, 0), 1);
        Due.is("night", x.night(2), 0);
        Due.is("reading", x.reading(0, 1, 1), 0);
        Due.is("broken text", Due.tellDown(x, "d;r123;g400,4560"), -115);
        Due.is("barrows stay", x.many(0), 4);
        Due.is("walkers stay", x.many(1), 4);
        Due.is("nights stay", x.many(2), 2);
        Due.is("lodgers stay", x.many(3), 1);
        Due.is("readings stay", x.many(4), 1);
        Due.is("kind stays", x.ofBarrow(1, 0), 1);
        Due.is("means stay", x.ofWalker(0, 0), 1);
    }

    private static void textMakesAllAnew() {
        BarrowNights x = Due.on(Due.FOUR);
        Due.is("lodge", x.lodge(0, 0), 1);
        Due.is("night", x.night(3), 1);
        Due.is("lodge", x.lodge(1, 1), 1);
        Due.is("reading", x.reading(0, 1, 1), 0);
        Due.is("tell", x.tell(0), 1);
        Due.is("the same text", Due.tellDown(x, Due.FOUR), 4);
        for (int what = 2; what <= 4; what++) Due.is("many " + what + " anew", x.many(what), 0);
        int[] means = {5, 3, 8, 0};
        int[] places = {4, 2, 1, 2};
        for (int w = 0; w < 4; w++) {
            Due.is("means anew", x.ofWalker(w, 0), means[w]);
            Due.is("place anew", x.ofWalker(w, 1), places[w]);
            Due.is("nobody lodges", x.ofWalker(w, 3), -9);
            Due.is("nobody is cold", x.ofWalker(w, 4), 0);
        }
        Due.is("trace stays", x.trace(), 1);
        Due.is("fewer of both", Due.tellDown(x, "d;g100,001"), 1);
        Due.is("barrows", x.many(0), 1);
        Due.is("walkers", x.many(1), 1);
        Due.is("no second barrow", x.ofBarrow(1, 0), -1);
        Due.is("no second walker", x.ofWalker(1, 0), -1);
    }

    private static void downFromOtherLanesAndPlaces() {
        for (int lane = 0; lane <= 2; lane++) {
            BarrowNights x = new BarrowNights();
            Due.row(x, 2, lane, 7, 7, 'd', ';', 'g', '4', '9', '8', ',', '7', '6', '5', 7);
            Due.is("down inside a row", x.down(2, lane, 2, 10), 1);
            Due.is("beds", x.ofBarrow(0, 1), 4);
            Due.is("reach", x.ofWalker(0, 2), 5);
            Due.is("one cell more is a fault", x.down(2, lane, 2, 11), -110);
            Due.is("one less ends too soon", x.down(2, lane, 2, 9), -109);
            Due.is("no cells end at once", x.down(2, lane, 2, 0), -100);
            Due.is("no cells at the end", x.down(2, lane, 13, 0), -100);
        }
        BarrowNights y = new BarrowNights();
        Due.row(y, 0, 2, 'd' + 256, ';');
        Due.is("ints are not cut to codes", y.down(0, 2, 0, 2), -100);
    }

    private static void downOfAWholeSheet() {
        String text = "d;r111;l222;g333;r444;l155,111,222,333,444,555";
        BarrowNights x = new BarrowNights();
        int[] codes = new int[60];
        for (int i = 0; i < text.length(); i++) codes[14 + i] = text.charAt(i);
        Due.row(x, 3, 0, codes);
        Due.is("the last 46 of 60 cells", x.down(3, 0, 14, 46), 5);
        Due.is("all 60 cells", x.down(3, 0, 0, 60), -100);
        for (int i = 0; i < 60; i++) codes[i] = i < text.length() ? text.charAt(i) : ',';
        Due.row(x, 3, 0, codes);
        Due.is("all 60 cells, from a text on", x.down(3, 0, 0, 60), -146);
    }

    private static void downRefusals() {
        BarrowNights x = Due.on(Due.FOUR);
        int[] outside = {-1, 3, Integer.MIN_VALUE, Integer.MAX_VALUE};
        int[] unknown = {-1, 4, Integer.MIN_VALUE, Integer.MAX_VALUE};
        for (int k = 0; k < 4; k++) {
            Due.makeFault(x);
            Due.faulted(x, "no such sheet, lane too", x.down(unknown[k], 9, 0, -1), -1, 0);
            Due.makeFault(x);
            Due.faulted(x, "no such lane", x.down(0, outside[k], 0, -1), -2, 0);
        }
        Due.is("down stays", x.many(0), 4);
    }

    private static void downFaults() {
        BarrowNights x = Due.on(Due.FOUR);
        Due.faulted(x, "another lane, size too", x.down(0, 1, 0, -1), -12, 2);
        Due.faulted(x, "another lane", x.down(0, 2, 0, 37), -12, 2);
        Due.faulted(x, "nothing is no cast", x.down(1, 2, 0, -1), -11, 1);
        Due.faulted(x, "a length below 0, index too", x.down(0, 0, -1, -1), -14, 4);
        Due.faulted(x, "least length", x.down(0, 0, 0, Integer.MIN_VALUE), -14, 4);
        Due.faulted(x, "from -1 on", x.down(0, 0, -1, 1), -13, 3);
        Due.faulted(x, "one too many", x.down(0, 0, 0, 38), -13, 3);
        Due.faulted(x, "one too many from 1 on", x.down(0, 0, 1, 37), -13, 3);
        Due.faulted(x, "none of them, from behind the end", x.down(0, 0, 38, 0), -13, 3);
        Due.faulted(x, "none of them, from -1 on", x.down(0, 0, -1, 0), -13, 3);
        Due.faulted(x, "a sum that wraps", x.down(0, 0, 2, Integer.MAX_VALUE), -13, 3);
        Due.faulted(x, "both greatest", x.down(0, 0, Integer.MAX_VALUE, Integer.MAX_VALUE), -13, 3);
        Due.faulted(x, "none at the end", x.down(0, 0, 37, 0), -100, 0);
        Due.is("down stays", x.many(0), 4);
    }

    private static void ofBarrow() {
        BarrowNights x = Due.on("d;r156;l278;g390;r412;g137,957,951");
        int[][] want = {{0, 1, 5, 6, 1, 0}, {1, 2, 7, 8, 4, 0}, {2, 3, 9, 0, 4, 0}, {0, 4, 1, 2, 4, 0}, {2, 1, 3, 7, 2, 0}};
        for (int b = 0; b < 5; b++) {
            for (int what = 0; what < 6; what++) Due.is("ofBarrow(" + b + ", " + what + ")", x.ofBarrow(b, what), want[b][what]);
            Due.is("what -1", x.ofBarrow(b, -1), -2);
            Due.is("what 6", x.ofBarrow(b, 6), -2);
        }
        Due.is("barrow -1, what too", x.ofBarrow(-1, 9), -1);
        Due.is("barrow 5, what too", x.ofBarrow(5, -1), -1);
        Due.is("least barrow", x.ofBarrow(Integer.MIN_VALUE, 0), -1);
        Due.is("lodge", x.lodge(1, 0), 1);
        Due.is("lodgers are a set", x.ofBarrow(0, 5), 2);
        Due.is("those of another", x.ofBarrow(1, 5), 0);
        Due.is("lodge", x.lodge(0, 4), 1);
        Due.is("lodgers of the last", x.ofBarrow(4, 5), 1);
    }

    private static void ofWalker() {
        BarrowNights x = Due.on("d;l204,123,009,991,404,001");
        int[][] want = {{1, 2, 3, -9, 0, -9}, {0, 0, 9, -9, 0, -9}, {9, 9, 1, -9, 0, -9}, {4, 0, 4, -9, 0, -9}, {0, 0, 1, -9, 0, -9}};
        for (int w = 0; w < 5; w++) {
            for (int what = 0; what < 6; what++) Due.is("ofWalker(" + w + ", " + what + ")", x.ofWalker(w, what), want[w][what]);
            Due.is("what -1", x.ofWalker(w, -1), -2);
            Due.is("what 6", x.ofWalker(w, 6), -2);
        }
        Due.is("walker -1, what too", x.ofWalker(-1, 9), -1);
        Due.is("walker 5, what too", x.ofWalker(5, -1), -1);
        Due.is("greatest walker", x.ofWalker(Integer.MAX_VALUE, 0), -1);
        Due.is("lodge", x.lodge(3, 0), 1);
        Due.is("its place is the barrow's", x.ofWalker(3, 1), 4);
        Due.is("its barrow", x.ofWalker(3, 3), 0);
        Due.is("the landlord's dream", x.ofWalker(3, 5), 10);
        Due.is("lodge", x.lodge(1, 0), 2);
        Due.is("the dream of the greatest lesser", x.ofWalker(3, 5), 1);
        Due.is("the least has the landlord's", x.ofWalker(1, 5), 10);
        Due.is("lodge", x.lodge(0, 0), 3);
        Due.is("still the greatest lesser", x.ofWalker(3, 5), 1);
        Due.is("now of the least", x.ofWalker(1, 5), 0);
        Due.is("leave", x.leave(1), 0);
        Due.is("the one further down", x.ofWalker(3, 5), 0);
        Due.is("who left has none", x.ofWalker(1, 5), -9);
        Due.is("night", x.night(2), 0);
        Due.is("cold", x.ofWalker(1, 4), 2);
        Due.is("not cold", x.ofWalker(3, 4), 0);
        BarrowNights y = Due.on("d;r100;l205,909,909");
        Due.is("lodge", y.lodge(0, 0), 1);
        Due.is("lodge", y.lodge(1, 1), 1);
        Due.is("another barrow's lodger is no dream", y.ofWalker(1, 5), 11);
    }

    private static void charge() {
        BarrowNights x = Due.on(Due.FOUR);
        Due.is("charge", x.charge(1, 9), 1);
        Due.is("pence", x.ofBarrow(1, 2), 9);
        Due.is("charge again", x.charge(1, 0), 9);
        Due.is("pence", x.ofBarrow(1, 2), 0);
        Due.is("another's stay", x.ofBarrow(0, 2), 2);
        Due.is("v 10", x.charge(1, 10), -2);
        Due.is("v -1", x.charge(1, -1), -2);
        Due.is("barrow 4, v too", x.charge(4, 10), -1);
        Due.is("barrow -1", x.charge(-1, 1), -1);
        Due.is("pence stay", x.ofBarrow(1, 2), 0);
    }

    private static void earn() {
        BarrowNights x = Due.on(Due.FOUR);
        Due.is("earn", x.earn(2, 99), 8);
        Due.is("means", x.ofWalker(2, 0), 99);
        Due.is("earn again", x.earn(2, 0), 99);
        Due.is("means", x.ofWalker(2, 0), 0);
        Due.is("another's stay", x.ofWalker(1, 0), 3);
        Due.is("v 100", x.earn(2, 100), -2);
        Due.is("v -1", x.earn(2, -1), -2);
        Due.is("walker 4, v too", x.earn(4, 100), -1);
        Due.is("walker -1", x.earn(-1, 1), -1);
        Due.is("means stay", x.ofWalker(2, 0), 0);
    }
}

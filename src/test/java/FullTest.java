/** Promises 15 to 19: reading, back, rooms, kinds, odds. */
public final class FullTest {
    public static void main(String[] args) {
        readingNumbers();
        readingRefusals();
        back();
        rooms();
        kinds();
        readingsOfOthers();
        odds();
        oddsByAll();
        oddsRefusals();
        Due.end();
    }

    private static void readingNumbers() {
        BarrowNights x = Due.on(Due.FOUR);
        for (int k = 0; k < 8; k++) {
            Due.is("reading " + k, x.reading(k % 4, k, k % 2), k);
            Due.is("how many", x.many(4), k + 1);
        }
        Due.is("a ninth", x.reading(0, 0, 0), -4);
        Due.is("how many", x.many(4), 8);
        Due.is("one is taken back", x.back(1), 7);
        Due.is("its number is free", x.reading(0, 9, 1), 7);
    }

    private static void readingRefusals() {
        BarrowNights x = Due.on(Due.FOUR);
        for (int k = 0; k < 8; k++) Due.is("reading", x.reading(0, 9, 1), k);
        Due.is("barrow 4, all too", x.reading(4, 10, 2), -1);
        Due.is("barrow -1", x.reading(-1, 0, 0), -1);
        Due.is("10 lodgers, full too", x.reading(0, 10, 0), -2);
        Due.is("-1 lodgers", x.reading(0, -1, 0), -2);
        Due.is("full 2", x.reading(0, 0, 2), -2);
        Due.is("full -1", x.reading(0, 0, -1), -2);
        Due.is("full", x.reading(0, 0, 0), -4);
        Due.is("no down", new BarrowNights().reading(0, 0, 0), -1);
    }

    private static void back() {
        BarrowNights x = Due.on(Due.FOUR);
        for (int k = 0; k < 5; k++) Due.is("reading", x.reading(0, 9, 1), k);
        Due.is("none", x.back(0), 5);
        Due.is("two", x.back(2), 3);
        Due.is("four of three", x.back(4), -2);
        Due.is("-1", x.back(-1), -2);
        Due.is("least", x.back(Integer.MIN_VALUE), -2);
        Due.is("how many", x.many(4), 3);
        Due.is("all", x.back(3), 0);
        Due.is("one of none", x.back(1), -2);
        Due.is("none of none", x.back(0), 0);
        // The last ones go, not the first.
        Due.is("reading", x.reading(0, 1, 1), 0);
        Due.is("reading", x.reading(1, 9, 0), 1);
        Due.is("that can't be", x.rooms(0), 0);
        Due.is("back", x.back(1), 1);
        Due.is("the first stands", x.rooms(0), 2);
    }

    private static void rooms() {
        // Of each kind with 2 beds, by "full with so many": the beds by which it holds no more.
        String[] texts = {"d;r200,001", "d;l200,001", "d;g200,001"};
        int[][] full = {
            {0, 2, 6, 14, 30, 30, 30, 30, 30, 30},
            {0, 0, 2, 2, 6, 6, 14, 14, 30, 30},
            {0, 0, 2, 6, 14, 30, 30, 30, 30, 30},
        };
        for (int kind = 0; kind < 3; kind++) {
            BarrowNights x = Due.on(texts[kind]);
            Due.is("rooms without readings", x.rooms(0), 30);
            for (int lodgers = 0; lodgers < 10; lodgers++) {
                Due.is("reading", x.reading(0, lodgers, 1), 0);
                Due.is("rooms, kind " + kind + " full with " + lodgers, x.rooms(0), full[kind][lodgers]);
                Due.is("back", x.back(1), 0);
                Due.is("reading", x.reading(0, lodgers, 0), 0);
                Due.is("rooms, kind " + kind + " not full with " + lodgers, x.rooms(0), 30 - full[kind][lodgers]);
                Due.is("back", x.back(1), 0);
            }
        }
        Due.is("barrow 1", Due.on("d;r200,001").rooms(1), -1);
        Due.is("barrow -1", Due.on("d;r200,001").rooms(-1), -1);
        Due.is("no down", new BarrowNights().rooms(0), -1);
    }

    private static void kinds() {
        // With 1, 2, 3 and 4 beds: ROUND, LONG, RING hold 1 2 2, 2 4 3, 3 6 4, 4 8 5.
        int[][] full = {
            {0, 1, 7, 7, 7, 7, 7, 7, 7, 7},
            {0, 0, 1, 5, 7, 7, 7, 7, 7, 7},
            {0, 0, 0, 1, 5, 5, 7, 7, 7, 7},
            {0, 0, 0, 0, 1, 5, 5, 5, 7, 7},
        };
        for (int beds = 1; beds <= 4; beds++) {
            for (char letter : new char[] {'r', 'l', 'g'}) {
                BarrowNights x = Due.on("d;" + letter + beds + "00,001");
                Due.is("kinds without readings", x.kinds(0), 7);
                for (int lodgers = 0; lodgers < 10; lodgers++) {
                    Due.is("reading", x.reading(0, lodgers, 1), 0);
                    Due.is("kinds, full with " + lodgers, x.kinds(0), full[beds - 1][lodgers]);
                    Due.is("back", x.back(1), 0);
                    Due.is("reading", x.reading(0, lodgers, 0), 0);
                    Due.is("kinds, not full with " + lodgers, x.kinds(0), 7 - full[beds - 1][lodgers]);
                    Due.is("back", x.back(1), 0);
                }
            }
        }
        Due.is("barrow 1", Due.on("d;r200,001").kinds(1), -1);
        Due.is("barrow -1", Due.on("d;r200,001").kinds(-1), -1);
        Due.is("no down", new BarrowNights().kinds(0), -1);
    }

    private static void readingsOfOthers() {
        BarrowNights x = Due.on("d;r200;l200,001");
        Due.is("reading", x.reading(0, 1, 0), 0);
        Due.is("reading", x.reading(0, 3, 1), 1);
        Due.is("between the two", x.rooms(0), 12);
        Due.is("the other is free", x.rooms(1), 30);
        Due.is("kinds", x.kinds(0), 5);
        Due.is("kinds of the other", x.kinds(1), 7);
        // Barrow 0 holds 2: full with 1 is not so of it as it is, but with 1 bed.
        Due.is("back", x.back(2), 0);
        Due.is("reading", x.reading(0, 1, 1), 0);
        Due.is("its own rooms may mend it", x.rooms(0), 2);
        Due.is("another's can't", x.rooms(1), 0);
        Due.is("kinds can't", x.kinds(0), 0);
        Due.is("another's kinds can't", x.kinds(1), 0);
        Due.is("lodgers now are aside", x.ofBarrow(0, 5), 0);
    }

    private static void oddsAre(String text, int b, long upper, long lower) {
        BarrowNights x = Due.on(text);
        Due.is("upper of " + text, x.odds(b, 0), upper);
        Due.is("lower of " + text, x.odds(b, 1), lower);
    }

    private static void odds() {
        oddsAre("d;r100,001", 0, 1, 2);
        oddsAre("d;r200,001", 0, 0, 1);
        oddsAre("d;r100;r200,001", 0, 1, 3);
        oddsAre("d;r100,001,001", 0, 3, 4);
        oddsAre("d;l100,001,001", 0, 1, 4);
        oddsAre("d;g100,001,001,001", 0, 1, 2);
        oddsAre("d;r100;r100;r100,001,001,001,001,001", 2, 781, 1024);
        oddsAre("d;g400;r100;r100;r100;r100,001,001,001,001,001", 0, 1, 7776);
        oddsAre("d;r400;r100;r100;r100;r100,001,001,001,001,001", 0, 13, 3888);
        oddsAre("d;l300;r100;r100;r100;r100,001,001,001,001,001", 0, 0, 1);
        oddsAre("d;l199;r100,001,991", 0, 1, 9);
    }

    /** Counts every way to lie anywhere. */
    private static void oddsByAll() {
        for (int barrows = 1; barrows <= 5; barrows++) {
            for (int walkers = 1; walkers <= 5; walkers++) {
                for (int beds = 1; beds <= 4; beds++) {
                    String text = "d;r" + beds + "00" + ";g100".repeat(barrows - 1) + ",001".repeat(walkers);
                    int all = 1;
                    for (int w = 0; w < walkers; w++) all *= barrows + 1;
                    int in = 0;
                    for (int way = 0; way < all; way++) {
                        int there = 0;
                        for (int rest = way, w = 0; w < walkers; w++, rest /= barrows + 1) there += rest % (barrows + 1) == 0 ? 1 : 0;
                        if (there >= beds) in++;
                    }
                    int part = all;
                    while (in % part != 0 || all % part != 0) part--;
                    oddsAre(text, 0, in / part, all / part);
                }
            }
        }
    }

    private static void oddsRefusals() {
        BarrowNights x = Due.on(Due.FOUR);
        Due.is("barrow 4", x.odds(4, 0), Long.MIN_VALUE);
        Due.is("barrow -1", x.odds(-1, 0), Long.MIN_VALUE);
        Due.is("which 2", x.odds(0, 2), Long.MIN_VALUE);
        Due.is("which -1", x.odds(0, -1), Long.MIN_VALUE);
        Due.is("no down", new BarrowNights().odds(0, 0), Long.MIN_VALUE);
        Due.is("LOST", BarrowNights.LOST, Long.MIN_VALUE);
    }
}

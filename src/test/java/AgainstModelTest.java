import java.util.Random;

/** Promises 1 to 30: chance runs of calls, each answered by the class and by the model, which must agree. */
public final class AgainstModelTest {
    private static final int RUNS = 400;
    private static final int CALLS = 512;
    private static final int[] EXTREMES = {Integer.MIN_VALUE, Integer.MAX_VALUE, Integer.MAX_VALUE - 1, Integer.MIN_VALUE + 1, -100, 100, 256, 60, 61};

    private final Random chance;
    private final BarrowNights x = new BarrowNights();
    private final Model m = new Model();
    private final int run;
    private int calls = 0;

    private AgainstModelTest(int run) {
        this.run = run;
        chance = new Random(7919L * run + 17);
    }

    public static void main(String[] args) {
        for (int run = 0; run < RUNS; run++) new AgainstModelTest(run).play();
        Due.end();
    }

    private void play() {
        // Some runs have calls ahead of any down.
        int ahead = run % 4 == 0 ? 40 : 0;
        while (calls < ahead) oneCall();
        if (run % 8 != 0) tellDown();
        while (calls < CALLS - 70) oneCall();
    }

    private void same(String call, long got, long want) {
        calls++;
        Due.is("run " + run + ", call " + calls + ": " + call, got, want);
    }

    /** Mostly from least to most and one beyond, now and then far out. */
    private int about(int least, int most) {
        int die = chance.nextInt(60);
        if (die == 0) return EXTREMES[chance.nextInt(EXTREMES.length)];
        if (die < 4) return die % 2 == 0 ? least - 1 : most + 1;
        return least + chance.nextInt(most - least + 1);
    }

    private int sheetNumber() {
        return about(0, 3);
    }

    private void tellRow(int k, int lane, int... values) {
        same("sheet(" + k + ", " + lane + ", " + values.length + ")", x.sheet(k, lane, values.length), m.sheet(k, lane, values.length));
        for (int i = 0; i < values.length; i++) {
            same("put(" + k + ", " + i + ", " + values[i] + ")", x.put(k, i, values[i]), m.put(k, i, values[i]));
        }
    }

    private void tellDown() {
        StringBuilder text = new StringBuilder("d");
        int barrows = 1 + chance.nextInt(chance.nextInt(10) == 0 ? 6 : 5);
        int walkers = 1 + chance.nextInt(chance.nextInt(10) == 0 ? 6 : 5);
        for (int b = 0; b < barrows; b++) {
            text.append(';').append("rlg".charAt(chance.nextInt(3))).append(1 + chance.nextInt(chance.nextBoolean() ? 2 : 4));
            text.append(chance.nextInt(chance.nextBoolean() ? 3 : 10)).append(chance.nextInt(10));
        }
        for (int w = 0; w < walkers; w++) {
            text.append(',').append(chance.nextInt(10)).append(chance.nextInt(10)).append(1 + chance.nextInt(chance.nextBoolean() ? 4 : 9));
        }
        if (chance.nextInt(4) == 0) text.setCharAt(chance.nextInt(text.length()), "d;,rlg0123456789x".charAt(chance.nextInt(17)));
        if (chance.nextInt(8) == 0) text.setLength(chance.nextInt(text.length() + 1));
        int[] codes = new int[text.length()];
        for (int i = 0; i < codes.length; i++) codes[i] = text.charAt(i);
        int k = chance.nextInt(4);
        int lane = chance.nextInt(3);
        tellRow(k, lane, codes);
        same("down by " + text, x.down(k, lane, 0, codes.length), m.down(k, lane, 0, codes.length));
        int i = about(0, codes.length);
        int n = about(0, codes.length);
        if (chance.nextInt(4) == 0) same("down from " + i + ", " + n, x.down(k, lane, i, n), m.down(k, lane, i, n));
    }

    private void tellSeason() {
        int n = chance.nextInt(9);
        int[] row = new int[2 * n];
        for (int a = 0; a < n; a++) {
            int die = chance.nextInt(10);
            row[2 * a + 1] = die < 5 ? about(0, Math.max(0, m.many(0) - 1)) : die < 8 ? 8 : 9;
            row[2 * a] = row[2 * a + 1] == 8 ? about(0, 9) : about(0, Math.max(0, m.many(1) - 1));
        }
        int k = chance.nextInt(4);
        int lane = chance.nextInt(3);
        tellRow(k, lane, row);
        for (int what : new int[] {0, 1, 2, 3, 10 + chance.nextInt(5), 20 + chance.nextInt(5), about(0, 3)}) {
            same("season of " + n + ", what " + what, x.season(k, lane, 0, n, what), m.season(k, lane, 0, n, what));
        }
        int sheet = sheetNumber();
        int other = about(0, 2);
        int i = about(0, 2);
        int count = about(0, 20);
        same("season", x.season(sheet, other, i, count, 1), m.season(sheet, other, i, count, 1));
    }

    private void tellDreams() {
        int[] row = new int[Math.max(1, m.many(1)) + chance.nextInt(2)];
        for (int w = 0; w < row.length; w++) {
            int die = chance.nextInt(10);
            row[w] = die < 5 ? -9 : die < 7 ? 99 : die < 9 ? about(10, 14) : about(0, 4);
        }
        int k = chance.nextInt(4);
        int lane = chance.nextInt(3);
        tellRow(k, lane, row);
        for (int w = -1; w < 5; w++) same("lain " + w, x.lain(k, lane, 0, w), m.lain(k, lane, 0, w));
        int sheet = sheetNumber();
        int other = about(0, 2);
        int i = about(0, 2);
        int which = about(-1, 4);
        same("lain", x.lain(sheet, other, i, which), m.lain(sheet, other, i, which));
        same("fault()", x.fault(), m.fault());
    }

    private void oneCall() {
        int die = chance.nextInt(100);
        if (die < 1) tellDown();
        else if (die < 3) tellSeason();
        else if (die < 5) tellDreams();
        else if (die < 25) ofSheets();
        else if (die < 40) ofReadings();
        else if (die < 50) ofWays();
        else if (die < 60) ofParts();
        else ofDown();
    }

    private void ofDown() {
        int b = about(0, Math.max(0, m.many(0) - 1));
        int w = about(0, Math.max(0, m.many(1) - 1));
        int what = about(0, 5);
        int n = about(1, chance.nextInt(5) == 0 ? 30 : 2);
        int pence = about(0, chance.nextBoolean() ? 3 : 9);
        int means = about(0, chance.nextBoolean() ? 20 : 99);
        switch (chance.nextInt(10)) {
            case 0 -> same("charge(" + b + ", " + pence + ")", x.charge(b, pence), m.charge(b, pence));
            case 1 -> same("earn(" + w + ", " + means + ")", x.earn(w, means), m.earn(w, means));
            case 2 -> same("leave(" + w + ")", x.leave(w), m.leave(w));
            case 3 -> same("night(" + n + ")", x.night(n), m.night(n));
            case 4, 5 -> same("ofBarrow(" + b + ", " + what + ")", x.ofBarrow(b, what), m.ofBarrow(b, what));
            case 6, 7 -> same("ofWalker(" + w + ", " + what + ")", x.ofWalker(w, what), m.ofWalker(w, what));
            default -> same("lodge(" + w + ", " + b + ")", x.lodge(w, b), m.lodge(w, b));
        }
    }

    private void ofWays() {
        int b = about(0, 4);
        int w = about(0, 4);
        int k = about(-2, 4);
        int place = about(0, 9);
        switch (chance.nextInt(4)) {
            case 0 -> same("ploughed(" + b + ")", x.ploughed(b), m.ploughed(b));
            case 1 -> same("housed(" + k + ")", x.housed(k), m.housed(k));
            default -> same("way(" + w + ", " + place + ")", x.way(w, place), m.way(w, place));
        }
    }

    private void ofReadings() {
        int b = about(0, 4);
        int lodgers = about(0, 9);
        int full = about(0, 1);
        int k = about(0, m.many(4));
        int which = about(0, 1);
        switch (chance.nextInt(8)) {
            case 0 -> same("back(" + k + ")", x.back(k), m.back(k));
            case 1, 2 -> same("rooms(" + b + ")", x.rooms(b), m.rooms(b));
            case 3, 4 -> same("kinds(" + b + ")", x.kinds(b), m.kinds(b));
            case 5 -> same("odds(" + b + ", " + which + ")", x.odds(b, which), m.odds(b, which));
            default -> {
                // A reading that is so of the barrow as it is, mostly.
                int so = m.ofBarrow(b, 4) <= lodgers ? 1 : 0;
                int told = chance.nextInt(4) == 0 ? full : so;
                same("reading(" + b + ", " + lodgers + ", " + told + ")", x.reading(b, lodgers, told), m.reading(b, lodgers, told));
            }
        }
    }

    private void ofSheets() {
        int k = sheetNumber();
        int other = sheetNumber();
        int lane = about(0, 2);
        int i = about(0, 12);
        int j = about(0, 12);
        int n = about(0, 14);
        int v = chance.nextBoolean() ? chance.nextInt() : about(-200, 200);
        switch (chance.nextInt(12)) {
            case 0 -> same("sheet(" + k + ", " + lane + ", " + n + ")", x.sheet(k, lane, n), m.sheet(k, lane, n));
            case 1 -> same("lose(" + k + ")", x.lose(k), m.lose(k));
            case 2, 3 -> same("put(" + k + ", " + i + ", " + v + ")", x.put(k, i, v), m.put(k, i, v));
            case 4, 5, 6 -> same("cell(" + k + ", " + i + ", " + lane + ")", x.cell(k, i, lane), m.cell(k, i, lane));
            case 7 -> same("down(" + k + ", " + lane + ", " + i + ", " + n + ")", x.down(k, lane, i, n), m.down(k, lane, i, n));
            case 8, 9 -> same("fault()", x.fault(), m.fault());
            default -> same("copy(" + k + ", " + i + ", " + other + ", " + j + ", " + n + ")", x.copy(k, i, other, j, n), m.copy(k, i, other, j, n));
        }
    }

    private void ofParts() {
        int b = about(0, 4);
        int kind = about(0, 2);
        int what = about(0, 4);
        switch (chance.nextInt(6)) {
            case 0 -> same("tell(" + b + ")", x.tell(b), m.tell(b));
            case 1 -> same("haunt(" + b + ")", x.haunt(b), m.haunt(b));
            case 2 -> same("as(" + b + ", " + kind + ")", x.as(b, kind), m.as(b, kind));
            case 3 -> same("trace()", x.trace(), m.trace());
            case 4 -> same("fault()", x.fault(), m.fault());
            default -> same("many(" + what + ")", x.many(what), m.many(what));
        }
    }
}

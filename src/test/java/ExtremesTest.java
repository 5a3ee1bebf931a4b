import java.util.Arrays;

/** No call throws or is answered amiss, whatever numbers it is given: all of a few numbers at all places, held against the model. */
public final class ExtremesTest {
    private static final int[] NUMBERS = {Integer.MIN_VALUE, -1, 0, 1, 3, 37, Integer.MAX_VALUE};

    /** An object stays far below its 512 calls. */
    private static final int MOST_CALLS = 300;

    private interface Call {
        long of(int[] a);
    }

    private BarrowNights x;
    private Model m;
    private int calls;

    public static void main(String[] args) {
        new ExtremesTest().allCalls();
        Due.end();
    }

    private void allCalls() {
        all("down", 4, a -> x.down(a[0], a[1], a[2], a[3]), a -> m.down(a[0], a[1], a[2], a[3]));
        all("ofBarrow", 2, a -> x.ofBarrow(a[0], a[1]), a -> m.ofBarrow(a[0], a[1]));
        all("ofWalker", 2, a -> x.ofWalker(a[0], a[1]), a -> m.ofWalker(a[0], a[1]));
        all("charge", 2, a -> x.charge(a[0], a[1]), a -> m.charge(a[0], a[1]));
        all("earn", 2, a -> x.earn(a[0], a[1]), a -> m.earn(a[0], a[1]));
        all("lodge", 2, a -> x.lodge(a[0], a[1]), a -> m.lodge(a[0], a[1]));
        all("leave", 1, a -> x.leave(a[0]), a -> m.leave(a[0]));
        all("night", 1, a -> x.night(a[0]), a -> m.night(a[0]));
        all("season", 5, a -> x.season(a[0], a[1], a[2], a[3], a[4]), a -> m.season(a[0], a[1], a[2], a[3], a[4]));
        all("housed", 1, a -> x.housed(a[0]), a -> m.housed(a[0]));
        all("ploughed", 1, a -> x.ploughed(a[0]), a -> m.ploughed(a[0]));
        all("way", 2, a -> x.way(a[0], a[1]), a -> m.way(a[0], a[1]));
        all("lain", 4, a -> x.lain(a[0], a[1], a[2], a[3]), a -> m.lain(a[0], a[1], a[2], a[3]));
        all("reading", 3, a -> x.reading(a[0], a[1], a[2]), a -> m.reading(a[0], a[1], a[2]));
        all("back", 1, a -> x.back(a[0]), a -> m.back(a[0]));
        all("rooms", 1, a -> x.rooms(a[0]), a -> m.rooms(a[0]));
        all("kinds", 1, a -> x.kinds(a[0]), a -> m.kinds(a[0]));
        all("odds", 2, a -> x.odds(a[0], a[1]), a -> m.odds(a[0], a[1]));
        all("sheet", 3, a -> x.sheet(a[0], a[1], a[2]), a -> m.sheet(a[0], a[1], a[2]));
        all("lose", 1, a -> x.lose(a[0]), a -> m.lose(a[0]));
        all("put", 3, a -> x.put(a[0], a[1], a[2]), a -> m.put(a[0], a[1], a[2]));
        all("cell", 3, a -> x.cell(a[0], a[1], a[2]), a -> m.cell(a[0], a[1], a[2]));
        all("copy", 5, a -> x.copy(a[0], a[1], a[2], a[3], a[4]), a -> m.copy(a[0], a[1], a[2], a[3], a[4]));
        all("tell", 1, a -> x.tell(a[0]), a -> m.tell(a[0]));
        all("haunt", 1, a -> x.haunt(a[0]), a -> m.haunt(a[0]));
        all("as", 2, a -> x.as(a[0], a[1]), a -> m.as(a[0], a[1]));
        all("trace", 0, a -> x.trace(), a -> m.trace());
        all("fault", 0, a -> x.fault(), a -> m.fault());
        all("many", 1, a -> x.many(a[0]), a -> m.many(a[0]));
    }

    private void all(String name, int takes, Call one, Call other) {
        all(name, takes, one, other, false);
        all(name, takes, one, other, true);
    }

    private void all(String name, int takes, Call one, Call other, boolean busy) {
        make(busy);
        int ways = 1;
        for (int t = 0; t < takes; t++) ways *= NUMBERS.length;
        for (int way = 0; way < ways; way++) {
            int[] a = new int[takes];
            for (int t = 0, rest = way; t < takes; t++, rest /= NUMBERS.length) a[t] = NUMBERS[rest % NUMBERS.length];
            if (calls > MOST_CALLS) make(busy);
            calls += 2;
            String told = name + " of " + Arrays.toString(a);
            Due.is(told, one.of(a), other.of(a));
            Due.is("fault() behind " + told, x.fault(), m.fault());
        }
    }

    private void make(boolean busy) {
        x = new BarrowNights();
        m = new Model();
        calls = 0;
        if (!busy) return;
        row(0, 0, Due.FOUR.chars().toArray());
        row(1, 2, 0, 1, 3, 8, 0, 9);
        row(3, 1, -9, -9, 99, 10, 11);
        Due.is("down", x.down(0, 0, 0, 37), m.down(0, 0, 0, 37));
        Due.is("lodge", x.lodge(1, 2), m.lodge(1, 2));
        Due.is("reading", x.reading(1, 3, 0), m.reading(1, 3, 0));
        calls += 3;
    }

    private void row(int k, int lane, int... values) {
        Due.is("sheet", x.sheet(k, lane, values.length), m.sheet(k, lane, values.length));
        for (int i = 0; i < values.length; i++) Due.is("put", x.put(k, i, values[i]), m.put(k, i, values[i]));
        calls += 1 + values.length;
    }
}

import java.util.ArrayList;
import java.util.Arrays;
import java.util.List;
import java.util.regex.Matcher;
import java.util.regex.Pattern;

/** The document once more, slowly: each term is taken by its definition, over all ways there are. */
final class Model {
    private static final long LOST = Long.MIN_VALUE;
    private static final Pattern TEXT = Pattern.compile("d(?:;[rlg][1-4][0-9][0-9]){1,5}(?:,[0-9][0-9][1-9]){1,5}");

    private static final class Barrow {
        int kind;
        int beds;
        int pence;
        int place;
    }

    private static final class Walker {
        int means;
        int place;
        int reach;
        int barrow = -9;
        int cold;

        Walker again() {
            Walker w = new Walker();
            w.means = means;
            w.place = place;
            w.reach = reach;
            w.barrow = barrow;
            w.cold = cold;
            return w;
        }
    }

    private final List<Barrow> barrows = new ArrayList<>();
    private List<Walker> walkers = new ArrayList<>();
    private int nights;
    private final List<int[]> readings = new ArrayList<>();
    private final Object[] sheets = new Object[4];
    private int trace;
    private int fault;

    // What a call comes to, told by a number: a refusal's own, or -10 less a fault.

    private int refuse(int refusal) {
        fault = 0;
        return refusal;
    }

    private int come(int to) {
        fault = to;
        return to == 0 ? 0 : -10 - to;
    }

    private boolean noBarrow(int b) {
        return b < 0 || b >= barrows.size();
    }

    private boolean noWalker(int w) {
        return w < 0 || w >= walkers.size();
    }

    private static boolean not(int v, int least, int most) {
        return v < least || v > most;
    }

    private static int lane(Object row) {
        return row instanceof byte[] ? 0 : row instanceof short[] ? 1 : 2;
    }

    private static int[] ints(Object row) {
        int[] all = new int[java.lang.reflect.Array.getLength(row)];
        for (int i = 0; i < all.length; i++) all[i] = ((Number) java.lang.reflect.Array.get(row, i)).intValue();
        return all;
    }

    private int takeRow(int k, int lane) {
        if (sheets[k] != null && lane(sheets[k]) != lane) return 2;
        return sheets[k] == null ? 1 : 0;
    }

    private int takeCells(int k, long i, long n) {
        return i < 0 || n < 0 || i + n > ints(sheets[k]).length ? 3 : 0;
    }

    private int[] cells(int k, int i, int n) {
        return Arrays.copyOfRange(ints(sheets[k]), i, i + n);
    }

    // ---- 1

    int down(int sheet, int lane, int i, int n) {
        if (not(sheet, 0, 3)) return refuse(-1);
        if (not(lane, 0, 2)) return refuse(-2);
        int to = takeRow(sheet, lane);
        if (to == 0 && n < 0) to = 4;
        if (to == 0) to = takeCells(sheet, i, n);
        if (come(to) != 0) return come(to);
        StringBuilder text = new StringBuilder();
        for (int code : cells(sheet, i, n)) text.append(code > 0 && code < 128 ? (char) code : '?');
        for (int p = 0; p < n; p++) {
            Matcher m = TEXT.matcher(text.substring(0, p + 1));
            if (!m.matches() && !m.hitEnd()) return -100 - p;
        }
        if (!TEXT.matcher(text).matches()) return -100 - n;
        tellAnew(text.toString());
        return barrows.size();
    }

    private void tellAnew(String text) {
        barrows.clear();
        walkers.clear();
        readings.clear();
        nights = 0;
        Matcher b = Pattern.compile(";(.)(.)(.)(.)").matcher(text);
        while (b.find()) {
            Barrow one = new Barrow();
            one.kind = "rlg".indexOf(b.group(1));
            one.beds = Integer.parseInt(b.group(2));
            one.pence = Integer.parseInt(b.group(3));
            one.place = Integer.parseInt(b.group(4));
            barrows.add(one);
        }
        Matcher w = Pattern.compile(",(.)(.)(.)").matcher(text);
        while (w.find()) {
            Walker one = new Walker();
            one.means = Integer.parseInt(w.group(1));
            one.place = Integer.parseInt(w.group(2));
            one.reach = Integer.parseInt(w.group(3));
            walkers.add(one);
        }
    }

    private static int holds(int kind, int beds) {
        int round = beds;
        return kind == 0 ? round : kind == 1 ? beds + beds : round + 1;
    }

    private int holds(int b) {
        return holds(barrows.get(b).kind, barrows.get(b).beds);
    }

    private List<Integer> lodgers(int b) {
        List<Integer> all = new ArrayList<>();
        for (int w = 0; w < walkers.size(); w++) if (walkers.get(w).barrow == b) all.add(w);
        return all;
    }

    private static int asSet(List<Integer> all) {
        int set = 0;
        for (int one : all) set += 1 << one;
        return set;
    }

    int ofBarrow(int b, int what) {
        if (noBarrow(b)) return -1;
        if (not(what, 0, 5)) return -2;
        Barrow one = barrows.get(b);
        return new int[] {one.kind, one.beds, one.pence, one.place, holds(b), asSet(lodgers(b))}[what];
    }

    int ofWalker(int w, int what) {
        if (noWalker(w)) return -1;
        if (not(what, 0, 5)) return -2;
        Walker one = walkers.get(w);
        int[] row = new int[walkers.size()];
        for (int v = 0; v < row.length; v++) row[v] = walkers.get(v).barrow;
        return new int[] {one.means, one.place, one.reach, one.barrow, one.cold, dream(row, w, -9, -9)}[what];
    }

    /** The dream of w, if they lie as a row tells; of one who lies nowhere, what stands for none. */
    private static int dream(int[] row, int w, int nowhere, int none) {
        if (row[w] == nowhere) return none;
        int greatest = 10 + row[w];
        for (int v = 0; v < w; v++) if (row[v] == row[w]) greatest = v;
        return greatest;
    }

    int charge(int b, int v) {
        if (noBarrow(b)) return -1;
        if (not(v, 0, 9)) return -2;
        int was = barrows.get(b).pence;
        barrows.get(b).pence = v;
        return was;
    }

    int earn(int w, int v) {
        if (noWalker(w)) return -1;
        if (not(v, 0, 99)) return -2;
        int was = walkers.get(w).means;
        walkers.get(w).means = v;
        return was;
    }

    // ---- 2

    private boolean could(int w, int b) {
        Walker one = walkers.get(w);
        Barrow there = barrows.get(b);
        return one.place - there.place <= one.reach && there.place - one.place <= one.reach && there.pence <= one.means;
    }

    int lodge(int w, int b) {
        if (noWalker(w)) return -1;
        if (noBarrow(b)) return -1;
        if (walkers.get(w).barrow != -9) return -3;
        if (!could(w, b) || lodgers(b).size() >= holds(b)) return -3;
        walkers.get(w).barrow = b;
        walkers.get(w).place = barrows.get(b).place;
        return lodgers(b).size();
    }

    int leave(int w) {
        if (noWalker(w)) return -1;
        int b = walkers.get(w).barrow;
        if (b == -9) return -3;
        walkers.get(w).barrow = -9;
        return b;
    }

    int night(int n) {
        if (not(n, 1, 30)) return -2;
        if (barrows.isEmpty()) return -3;
        int out = 0;
        for (int t = 0; t < n; t++) out += oneNight();
        return out;
    }

    private int oneNight() {
        int out = 0;
        nights++;
        for (Walker one : walkers) {
            if (one.barrow != -9) {
                int pence = barrows.get(one.barrow).pence;
                if (one.means < pence) {
                    one.barrow = -9;
                    out++;
                } else {
                    one.means -= pence;
                }
            }
            if (one.barrow == -9) one.cold++;
        }
        return out;
    }

    int season(int sheet, int lane, int i, int n, int what) {
        if (not(sheet, 0, 3)) return refuse(-1);
        if (not(lane, 0, 2)) return refuse(-2);
        if (not(n, 0, 20)) return refuse(-2);
        if (not(what, 0, 3) && not(what, 10, 14) && not(what, 20, 24)) return refuse(-2);
        int to = takeRow(sheet, lane);
        if (to == 0) to = takeCells(sheet, i, 2 * n);
        if (come(to) != 0) return come(to);
        if (barrows.isEmpty()) return refuse(-3);
        int[] row = cells(sheet, i, 2 * n);
        for (int a = 0; a < n; a++) {
            int second = row[2 * a + 1];
            if (noBarrow(second) && second != 8 && second != 9) return refuse(-2);
            if (second == 8 && not(row[2 * a], 0, 9)) return refuse(-2);
            if (second != 8 && noWalker(row[2 * a])) return refuse(-1);
        }
        List<Walker> kept = walkers;
        int keptNights = nights;
        walkers = new ArrayList<>();
        for (Walker one : kept) walkers.add(one.again());
        int answer = played(row, what);
        walkers = kept;
        nights = keptNights;
        return answer;
    }

    private int played(int[] row, int what) {
        int out = 0;
        for (int a = 0; a < row.length / 2; a++) {
            int first = row[2 * a];
            int second = row[2 * a + 1];
            int did = 0;
            if (second == 8) {
                for (int t = 0; t < first; t++) out += oneNight();
            } else {
                did = second == 9 ? leave(first) : lodge(first, second);
            }
            if (did < 0) return what == 1 ? a : -100 - a;
        }
        if (what == 0) {
            int set = 0;
            for (int b = 0; b < barrows.size(); b++) set |= asSet(lodgers(b));
            return set;
        }
        if (what == 1) return -9;
        if (what == 2) return out;
        if (what == 3) {
            int sum = 0;
            for (Walker one : walkers) sum += one.means;
            return sum;
        }
        int w = what < 20 ? what - 10 : what - 20;
        if (noWalker(w)) return -9;
        return what < 20 ? walkers.get(w).barrow : walkers.get(w).cold;
    }

    // ---- 3

    /** All rows of a barrow, or none (the number of barrows), for each walker, in their order. */
    private List<int[]> rows(boolean asHeld) {
        List<int[]> all = new ArrayList<>();
        int base = barrows.size() + 1;
        int count = 1;
        for (int w = 0; w < walkers.size(); w++) count *= base;
        for (int number = 0; number < count; number++) {
            int[] row = new int[walkers.size()];
            int rest = number;
            for (int w = row.length - 1; w >= 0; w--) {
                row[w] = rest % base;
                rest /= base;
            }
            if (!asHeld || areHeld(row)) all.add(row);
        }
        return all;
    }

    private boolean areHeld(int[] row) {
        int[] in = new int[barrows.size() + 1];
        for (int b : row) in[b]++;
        for (int b = 0; b < barrows.size(); b++) if (in[b] > holds(b)) return false;
        return true;
    }

    /** How many, the pence, then the row. */
    private int[] bestHoused(int without) {
        int none = barrows.size();
        int[] best = null;
        for (int[] row : rows(true)) {
            int count = 0;
            int pence = 0;
            boolean can = true;
            for (int w = 0; w < row.length; w++) {
                if (row[w] == none) continue;
                can &= row[w] != without && could(w, row[w]);
                count++;
                pence += barrows.get(row[w]).pence;
            }
            if (!can) continue;
            if (best == null || count > best[0] || count == best[0] && pence < best[1]) {
                best = new int[2 + row.length];
                best[0] = count;
                best[1] = pence;
                System.arraycopy(row, 0, best, 2, row.length);
            }
        }
        return best;
    }

    int housed(int k) {
        if (not(k, -2, 4)) return -2;
        if (barrows.isEmpty()) return -3;
        if (k >= walkers.size()) return -9;
        int answer = bestHoused(-9)[k + 2];
        return k >= 0 && answer == barrows.size() ? -9 : answer;
    }

    int ploughed(int b) {
        if (noBarrow(b)) return -1;
        return bestHoused(b)[0];
    }

    int way(int w, int place) {
        if (noWalker(w)) return -1;
        if (not(place, 0, 9)) return -2;
        int fewest = fewest(walkers.get(w).place, place, walkers.get(w).reach, 0);
        return fewest > barrows.size() ? -9 : fewest;
    }

    /** Over all chains of barrows of which none comes twice. */
    private int fewest(int from, int to, int reach, int used) {
        if (Math.abs(from - to) <= reach) return 0;
        int least = 99;
        for (int b = 0; b < barrows.size(); b++) {
            int there = barrows.get(b).place;
            if ((used & 1 << b) != 0 || Math.abs(from - there) > reach) continue;
            least = Math.min(least, 1 + fewest(there, to, reach, used | 1 << b));
        }
        return least;
    }

    int lain(int sheet, int lane, int i, int k) {
        if (not(sheet, 0, 3)) return refuse(-1);
        if (not(lane, 0, 2)) return refuse(-2);
        if (not(k, -1, 4)) return refuse(-2);
        if (barrows.isEmpty()) return refuse(-3);
        int to = takeRow(sheet, lane);
        if (to == 0) to = takeCells(sheet, i, walkers.size());
        if (come(to) != 0) return come(to);
        int[] told = cells(sheet, i, walkers.size());
        List<int[]> ways = new ArrayList<>();
        for (int[] row : rows(true)) {
            boolean so = true;
            for (int w = 0; w < told.length; w++) so &= told[w] == -9 || told[w] == dream(row, w, barrows.size(), 99);
            if (so) ways.add(row);
        }
        if (k == -1) return ways.size();
        if (noWalker(k) || ways.isEmpty() || ways.get(0)[k] == barrows.size()) return -9;
        return ways.get(0)[k];
    }

    // ---- 4

    int reading(int b, int lodgers, int full) {
        if (noBarrow(b)) return -1;
        if (not(lodgers, 0, 9) || not(full, 0, 1)) return -2;
        if (readings.size() == 8) return -4;
        readings.add(new int[] {b, lodgers, full});
        return readings.size() - 1;
    }

    int back(int k) {
        if (not(k, 0, readings.size())) return -2;
        for (int t = 0; t < k; t++) readings.remove(readings.size() - 1);
        return readings.size();
    }

    private boolean readingsAreSo() {
        for (int[] r : readings) if ((holds(r[0]) <= r[1]) != (r[2] == 1)) return false;
        return true;
    }

    int rooms(int b) {
        if (noBarrow(b)) return -1;
        int was = barrows.get(b).beds;
        int set = 0;
        for (int beds = 1; beds <= 4; beds++) {
            barrows.get(b).beds = beds;
            if (readingsAreSo()) set += 1 << beds;
        }
        barrows.get(b).beds = was;
        return set;
    }

    int kinds(int b) {
        if (noBarrow(b)) return -1;
        int was = barrows.get(b).kind;
        int set = 0;
        for (int kind = 0; kind <= 2; kind++) {
            barrows.get(b).kind = kind;
            if (readingsAreSo()) set += 1 << kind;
        }
        barrows.get(b).kind = was;
        return set;
    }

    long odds(int b, int which) {
        if (noBarrow(b) || not(which, 0, 1)) return LOST;
        int in = 0;
        List<int[]> rows = rows(false);
        for (int[] row : rows) {
            int there = 0;
            for (int one : row) if (one == b) there++;
            if (there >= holds(b)) in++;
        }
        int part = rows.size();
        while (in % part != 0 || rows.size() % part != 0) part--;
        return which == 0 ? in / part : rows.size() / part;
    }

    // ---- 5

    int sheet(int k, int lane, int n) {
        if (not(k, 0, 3)) return refuse(-1);
        if (not(lane, 0, 2) || n > 60) return refuse(-2);
        if (n < 0) return come(4);
        fault = 0;
        sheets[k] = lane == 0 ? new byte[n] : lane == 1 ? new short[n] : (Object) new int[n];
        return 1;
    }

    int lose(int k) {
        if (not(k, 0, 3)) return -1;
        int had = sheets[k] == null ? 0 : 1;
        sheets[k] = null;
        return had;
    }

    int put(int k, int i, int v) {
        if (not(k, 0, 3)) return refuse(-1);
        if (sheets[k] == null) return come(1);
        if (not(i, 0, ints(sheets[k]).length - 1)) return come(3);
        fault = 0;
        if (sheets[k] instanceof byte[] row) row[i] = (byte) v;
        if (sheets[k] instanceof short[] row) row[i] = (short) v;
        if (sheets[k] instanceof int[] row) row[i] = v;
        return 1;
    }

    long cell(int k, int i, int lane) {
        if (not(k, 0, 3) || not(lane, 0, 2)) {
            fault = 0;
            return LOST;
        }
        int to = takeRow(k, lane);
        if (to == 0) to = takeCells(k, i, 1);
        fault = to;
        return to != 0 ? LOST : ints(sheets[k])[i];
    }

    int copy(int k, int i, int other, int j, int n) {
        if (not(k, 0, 3) || not(other, 0, 3)) return refuse(-1);
        if (sheets[k] == null || sheets[other] == null) return come(1);
        if (lane(sheets[k]) != lane(sheets[other])) return come(2);
        if (takeCells(k, i, n) != 0 || takeCells(other, j, n) != 0) return come(3);
        int[] taken = cells(k, i, n);
        for (int t = 0; t < n; t++) put(other, j + t, taken[t]);
        fault = 0;
        return n;
    }

    private void mark(int... bodies) {
        for (int body : bodies) trace = trace * 31 + body;
    }

    int tell(int b) {
        if (noBarrow(b)) return -1;
        int beds = barrows.get(b).beds;
        switch (barrows.get(b).kind) {
            case 0:
                mark(1);
                return beds;
            case 1:
                mark(2, 1);
                return beds + 100;
            default:
                mark(3, 2, 1, 1);
                return beds + 100 + beds;
        }
    }

    int haunt(int b) {
        if (noBarrow(b)) return -1;
        boolean own = barrows.get(b).kind == 2;
        mark(own ? 5 : 4);
        return own ? 70 : b;
    }

    int as(int b, int kind) {
        if (noBarrow(b)) return refuse(-1);
        if (not(kind, 0, 2)) return refuse(-2);
        int[][] also = {{0}, {0, 1}, {0, 1, 2}};
        for (int one : also[barrows.get(b).kind]) if (one == kind) return refuse(1);
        return come(2);
    }

    int trace() {
        return trace;
    }

    int fault() {
        return fault;
    }

    int many(int what) {
        if (not(what, 0, 4)) return -2;
        int lodge = 0;
        for (Walker one : walkers) if (one.barrow != -9) lodge++;
        return new int[] {barrows.size(), walkers.size(), nights, lodge, readings.size()}[what];
    }
}

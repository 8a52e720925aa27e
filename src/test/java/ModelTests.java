import java.util.ArrayList;
import java.util.List;
import java.util.Random;

/** Random runs of calls, each answer held against a plain model that works from the history of evenings. */
public final class ModelTests {
    private static final int BAD = -1, NOT = -2, FULL = -3, NONE = -4, NULL = -11, CAST = -12, INDEX = -13, SIZE = -14;
    /** An object is used for 512 calls at most, and no step of a run makes more than 40. */
    private static final int MOST_CALLS = 512, MOST_OF_A_STEP = 40;
    /** What Random answers first is much the same for seeds that lie close together. */
    private static final long SPREAD = 0x9E3779B97F4A7C15L;
    private static int wrong = 0;
    private static int made = 0;

    /** One evening as it was: who told what, from where to where, to whom. */
    private record Evening(int teller, int tale, int from, int to, int set, boolean ended) { }

    private static final class State {
        List<int[]> tales = new ArrayList<>();
        List<Integer> tellers = new ArrayList<>();
        List<int[]> spinners = new ArrayList<>();
        List<Evening> evenings = new ArrayList<>();
        int memory = 20;

        State twin() {
            State s = new State();
            for (int[] t : tales) s.tales.add(t.clone());
            s.tellers.addAll(tellers);
            for (int[] y : spinners) s.spinners.add(y.clone());
            s.evenings.addAll(evenings);
            s.memory = memory;
            return s;
        }
    }

    private static final class Model {
        State now = new State();
        State kept = null;
        StringBuilder tape = new StringBuilder();
        Object[] sheets = new Object[4];

        int type(long w, int n) {
            if (n < 1 || n > 8) return BAD;
            StringBuilder more = new StringBuilder();
            for (int k = n - 1; k >= 0; k--) {
                char c = (char) (w >>> 8 * k & 0xff);
                if (c < ' ' || c > '~') return BAD;
                more.append(c);
            }
            if (tape.length() + n > 24) return FULL;
            tape.append(more);
            return tape.length();
        }

        int tale() {
            String text = tape.toString();
            tape = new StringBuilder();
            List<Integer> row = new ArrayList<>();
            for (int at = 0; at <= text.length(); at++) {
                if (at == text.length()) {
                    if (row.isEmpty()) return -20 - at;
                    break;
                }
                char c = text.charAt(at);
                if (c == ' ') continue;
                if (!Character.isDigit(c) || row.size() == 9) return -20 - at;
                row.add(c - '0');
            }
            if (now.tales.size() == 8) return FULL;
            now.tales.add(row.stream().mapToInt(x -> x).toArray());
            return now.tales.size() - 1;
        }

        boolean in(int v, int from, int to) { return from <= v && v <= to; }
        boolean isTale(int t) { return in(t, 0, now.tales.size() - 1); }
        boolean isTeller(int t) { return in(t, 0, now.tellers.size() - 1); }
        boolean isSpinner(int t) { return in(t, 0, now.spinners.size() - 1); }

        Evening broken() {
            if (now.evenings.isEmpty()) return null;
            Evening e = now.evenings.get(now.evenings.size() - 1);
            return e.ended ? null : e;
        }

        int change(int tale, int i, int v) {
            if (!isTale(tale) || !in(i, 0, now.tales.get(tale).length - 1) || !in(v, 0, 9)) return BAD;
            if (broken() != null && broken().tale == tale) return NOT;
            int was = now.tales.get(tale)[i];
            now.tales.get(tale)[i] = v;
            return was;
        }

        int teller(int kind) {
            if (!in(kind, 0, 3)) return BAD;
            if (now.tellers.size() == 4) return FULL;
            now.tellers.add(kind);
            return now.tellers.size() - 1;
        }

        int spinner() {
            if (now.spinners.size() == 4) return FULL;
            now.spinners.add(new int[4]);
            return now.spinners.size() - 1;
        }

        int memory(int v) {
            if (!in(v, 1, 99)) return BAD;
            int was = now.memory;
            now.memory = v;
            return was;
        }

        int told(int tale, int i) {
            if (!isTale(tale)) return BAD;
            int[] t = now.tales.get(tale);
            if (i == -1) return t.length;
            return in(i, 0, t.length - 1) ? t[i] : BAD;
        }

        int[] by(int kind, int[] t) {
            int[] out = new int[t.length];
            for (int i = 0; i < t.length; i++) {
                switch (kind) {
                    case 0 -> out[i] = t[i];
                    case 1 -> out[i] = t[i] == 0 ? 0 : t[i] - 1;
                    case 2 -> out[i] = t[i] >= 7 ? 9 : t[i] + 2;
                    default -> out[t.length - 1 - i] = t[i] == 0 ? 0 : t[i] - 1;
                }
            }
            return out;
        }

        int[] byTeller(int teller, int tale) { return by(now.tellers.get(teller), now.tales.get(tale)); }

        int sort(int tension) { return tension == 9 ? 3 : tension >= 6 ? 2 : tension >= 3 ? 1 : 0; }

        int tells(int teller, int tale, int i) {
            if (!isTeller(teller) || !isTale(tale) || !in(i, 0, now.tales.get(tale).length - 1)) return BAD;
            return byTeller(teller, tale)[i];
        }

        int yards(int s, int sort) { return isSpinner(s) && in(sort, 0, 3) ? now.spinners.get(s)[sort] : BAD; }

        int use(int s, int sort, int n) {
            if (!isSpinner(s) || !in(sort, 0, 3) || !in(n, 1, 999)) return BAD;
            if (now.spinners.get(s)[sort] < n) return NOT;
            return now.spinners.get(s)[sort] -= n;
        }

        /** The last evening number in which the tale was told to its end to the spinner, looked up in the history. */
        int lastToEnd(int s, int tale) {
            for (int e = now.evenings.size() - 1; e >= 0; e--) {
                Evening end = now.evenings.get(e);
                if (!end.ended || end.tale != tale) continue;
                boolean all = true;
                for (int b = e; b >= 0; b--) {
                    if ((now.evenings.get(b).set >> s & 1) == 0) all = false;
                    if (now.evenings.get(b).from == 0) break;
                }
                if (all) return e + 1;
            }
            return 0;
        }

        boolean inMind(int last, int evening) { return last != 0 && evening <= last + now.memory; }

        int mind(int s) {
            if (!isSpinner(s)) return BAD;
            int set = 0;
            for (int t = 0; t < now.tales.size(); t++) {
                if (inMind(lastToEnd(s, t), now.evenings.size() + 1)) set += 1 << t;
            }
            return set;
        }

        int count(int what) {
            if (!in(what, 0, 6)) return BAD;
            if (what == 0) return now.tales.size();
            if (what == 1) return now.tellers.size();
            if (what == 2) return now.spinners.size();
            if (what == 3) return now.evenings.size();
            if (broken() == null) return NONE;
            return what == 4 ? broken().tale : what == 5 ? broken().teller : broken().to;
        }

        int evening(int teller, int tale, int n, int set) {
            if (!isTeller(teller) || !isTale(tale) || !in(n, 1, 9)) return BAD;
            if (set < 0 || set >= 1 << now.spinners.size()) return BAD;
            int[] row = byTeller(teller, tale);
            Evening b = broken();
            int from = b != null && b.tale == tale && b.teller == teller ? b.to : 0;
            int to = Math.min(row.length, from + n);
            int all = 0;
            for (int s = 0; s < now.spinners.size(); s++) {
                if ((set >> s & 1) == 0) continue;
                boolean dull = inMind(lastToEnd(s, tale), now.evenings.size() + 1);
                for (int i = from; i < to; i++) {
                    int sort = sort(row[i]);
                    if (dull && sort > 0) sort--;
                    now.spinners.get(s)[sort]++;
                    all++;
                }
            }
            now.evenings.add(new Evening(teller, tale, from, to, set, to == row.length));
            return all;
        }

        int store(int s, int n, int i) {
            if (!isSpinner(s) || !in(n, 1, 5) || !in(i, -1, n - 1)) return BAD;
            int m = now.tales.size();
            if (m == 0) return NONE;
            int[] lasts = new int[m];
            for (int t = 0; t < m; t++) lasts[t] = lastToEnd(s, t);
            int total = (int) Math.pow(m, n);
            int best = -1;
            int[] bestRow = null;
            for (int code = 0; code < total; code++) {
                int[] row = new int[n];
                int c = code;
                for (int k = n - 1; k >= 0; k--) { row[k] = c % m; c /= m; }
                int sum = 0;
                int[] last = lasts.clone();
                for (int k = 0; k < n; k++) {
                    int e = now.evenings.size() + 1 + k;
                    boolean dull = inMind(last[row[k]], e);
                    for (int x : now.tales.get(row[k])) sum += Math.max(0, sort(x) - (dull ? 1 : 0));
                    last[row[k]] = e;
                }
                if (sum > best) { best = sum; bestRow = row; }
            }
            return i == -1 ? best : bestRow[i];
        }

        int[] points(int[] row, int j, int p) {
            int yards = 0, spinner = 0;
            for (int i = 0; i < j; i++) {
                if (row[i] < p) return new int[] {yards - 3, spinner};
                yards++;
                spinner += sort(row[i]) - 1;
            }
            return new int[] {yards, spinner};
        }

        int play(int teller, int tale, int j, int p, int what) {
            if (!isTeller(teller) || !isTale(tale) || !in(j, 1, now.tales.get(tale).length) || !in(p, 0, 9)
                    || !in(what, 0, 1)) return -100001;
            return points(byTeller(teller, tale), j, p)[what];
        }

        int rests(int teller, int tale, int what) {
            if (!isTeller(teller) || !isTale(tale) || !in(what, 0, 1)) return BAD;
            int[] row = byTeller(teller, tale);
            List<Integer> found = new ArrayList<>();
            for (int j = 1; j <= row.length; j++) {
                for (int p = 0; p < 10; p++) {
                    boolean rest = true;
                    for (int o = 1; o <= row.length; o++) rest &= points(row, o, p)[0] <= points(row, j, p)[0];
                    for (int o = 0; o < 10; o++) rest &= points(row, j, o)[1] <= points(row, j, p)[1];
                    if (rest) found.add(10 * j + p);
                }
            }
            return what == 0 ? found.size() : found.isEmpty() ? NONE : found.get(0);
        }

        int image() { kept = now.twin(); return 1; }

        int restore() {
            if (kept == null) return NONE;
            now = kept.twin();
            return 1;
        }

        int laneOf(Object o) { return o instanceof byte[] ? 0 : o instanceof short[] ? 1 : 2; }
        int at(Object o, int i) { return java.lang.reflect.Array.getInt(o, i); }
        int size(Object o) { return java.lang.reflect.Array.getLength(o); }

        int access(int sheet, int lane, long i, long n) {
            if (sheets[sheet] == null) return NULL;
            if (laneOf(sheets[sheet]) != lane) return CAST;
            return i < 0 || i + n > size(sheets[sheet]) ? INDEX : 0;
        }

        int access(int sheet, int lane, int i, int n, int most) {
            int a = access(sheet, lane, i, n);
            if (a != 0) return a;
            for (int k = 0; k < n; k++) if (!in(at(sheets[sheet], i + k), 0, most)) return NOT;
            return 0;
        }

        int[] taken(int sheet, int i, int n) {
            int[] out = new int[n];
            for (int k = 0; k < n; k++) out[k] = at(sheets[sheet], i + k);
            return out;
        }

        int coat(int s, int sheet, int lane, int i, int k) {
            if (!isSpinner(s) || !in(sheet, 0, 3) || !in(lane, 0, 2) || !in(k, -1, 7)) return BAD;
            int a = access(sheet, lane, i, 4, 99);
            if (a != 0) return a;
            for (int size = 0; size <= now.tales.size(); size++) {
                List<Integer> row = coatOf(s, taken(sheet, i, 4), size, 0, new ArrayList<>());
                if (row != null) return k == -1 ? size : k < size ? row.get(k) : NONE;
            }
            return NONE;
        }

        List<Integer> coatOf(int s, int[] want, int left, int from, List<Integer> row) {
            if (left == 0) {
                int[] have = new int[4];
                for (int x : row) {
                    boolean dull = inMind(lastToEnd(s, x / 10), now.evenings.size() + 1);
                    for (int t : byTeller(x % 10, x / 10)) have[Math.max(0, sort(t) - (dull ? 1 : 0))]++;
                }
                for (int q = 0; q < 4; q++) if (have[q] < want[q]) return null;
                return row;
            }
            for (int t = from; t < now.tales.size(); t++) {
                for (int u = 0; u < now.tellers.size(); u++) {
                    List<Integer> more = new ArrayList<>(row);
                    more.add(10 * t + u);
                    List<Integer> found = coatOf(s, want, left - 1, t + 1, more);
                    if (found != null) return found;
                }
            }
            return null;
        }

        int read(int sheet, int lane, int i, int n, int k) {
            if (!in(sheet, 0, 3) || !in(lane, 0, 2) || !in(n, 1, 16) || !in(k, -1, 7)) return BAD;
            int a = access(sheet, lane, i, n, 3);
            if (a != 0) return a;
            List<List<Integer>> rows = new ArrayList<>();
            readOn(taken(sheet, i, n), 0, new ArrayList<>(), rows);
            if (k == -1) return rows.size();
            return rows.isEmpty() || k >= rows.get(0).size() ? NONE : rows.get(0).get(k);
        }

        void readOn(int[] sorts, int at, List<Integer> row, List<List<Integer>> rows) {
            if (at == sorts.length) { rows.add(new ArrayList<>(row)); return; }
            for (int t = 0; t < now.tales.size(); t++) {
                int[] tale = now.tales.get(t);
                if (row.contains(t) || at + tale.length > sorts.length) continue;
                boolean fits = true;
                for (int q = 0; q < tale.length; q++) fits &= sort(tale[q]) == sorts[at + q];
                if (!fits) continue;
                row.add(t);
                readOn(sorts, at + tale.length, row, rows);
                row.remove(row.size() - 1);
            }
        }

        List<Integer> tangled(int a, int b) {
            List<Integer> x = new ArrayList<>(), y = new ArrayList<>(), out = new ArrayList<>();
            for (int t : now.tales.get(a)) x.add(t);
            for (int t : now.tales.get(b)) y.add(t);
            while (!x.isEmpty() && !y.isEmpty()) { out.add(x.remove(0)); out.add(y.remove(0)); }
            out.addAll(x);
            out.addAll(y);
            return out;
        }

        int untangle(int sheet, int lane, int i, int n, int what) {
            if (!in(sheet, 0, 3) || !in(lane, 0, 2) || !in(n, 1, 16) || !in(what, 0, 1)) return BAD;
            int acc = access(sheet, lane, i, n, 9);
            if (acc != 0) return acc;
            List<Integer> goal = new ArrayList<>();
            for (int x : taken(sheet, i, n)) goal.add(x);
            List<Integer> found = new ArrayList<>();
            for (int a = 0; a < now.tales.size(); a++) {
                for (int b = 0; b < now.tales.size(); b++) {
                    if (a != b && tangled(a, b).equals(goal)) found.add(10 * a + b);
                }
            }
            return what == 0 ? found.size() : found.isEmpty() ? NONE : found.get(0);
        }

        void put(Object o, int i, long v) {
            if (o instanceof byte[] b) b[i] = (byte) v;
            if (o instanceof short[] b) b[i] = (short) v;
            if (o instanceof int[] b) b[i] = (int) v;
        }

        int tangle(int a, int b, int sheet, int lane, int i) {
            if (!isTale(a) || !isTale(b) || a == b || !in(sheet, 0, 3) || !in(lane, 0, 2)) return BAD;
            List<Integer> row = tangled(a, b);
            int acc = access(sheet, lane, i, row.size());
            if (acc != 0) return acc;
            for (int k = 0; k < row.size(); k++) put(sheets[sheet], i + k, row.get(k));
            return row.size();
        }

        int passed(int tale, int k, int sheet, int lane, int i, int n, int j) {
            if (!isTale(tale) || !in(k, 1, 3) || !in(sheet, 0, 3) || !in(lane, 0, 2) || !in(n, 1, 9)
                    || !in(j, -1, k - 1)) return BAD;
            int acc = access(sheet, lane, i, n, 9);
            if (acc != 0) return acc;
            int m = now.tellers.size();
            int total = (int) Math.pow(m, k);
            List<int[]> found = new ArrayList<>();
            for (int code = 0; code < total; code++) {
                int[] row = new int[k];
                int c = code;
                for (int q = k - 1; q >= 0; q--) { row[q] = c % m; c /= m; }
                int[] t = now.tales.get(tale);
                for (int u : row) t = by(now.tellers.get(u), t);
                if (java.util.Arrays.equals(t, taken(sheet, i, n))) found.add(row);
            }
            return j == -1 ? found.size() : found.isEmpty() ? NONE : found.get(0)[j];
        }

        int sheet(int sheet, int lane, int n) {
            if (!in(sheet, 0, 3) || !in(lane, 0, 2) || n > 24) return BAD;
            if (n < 0) return SIZE;
            sheets[sheet] = lane == 0 ? new byte[n] : lane == 1 ? new short[n] : new int[n];
            return n;
        }

        int drop(int sheet) {
            if (!in(sheet, 0, 3)) return BAD;
            if (sheets[sheet] == null) return NULL;
            int had = size(sheets[sheet]);
            sheets[sheet] = null;
            return had;
        }

        int item(int sheet, int lane, int i, long v) {
            if (!in(sheet, 0, 3) || !in(lane, 0, 2)) return BAD;
            int acc = access(sheet, lane, i, 1);
            if (acc != 0) return acc;
            put(sheets[sheet], i, v);
            return 1;
        }

        int copy(int from, int i, int to, int j, int n) {
            if (!in(from, 0, 3) || !in(to, 0, 3)) return BAD;
            try {
                System.arraycopy(sheets[from], i, sheets[to], j, n);
            } catch (NullPointerException e) {
                return NULL;
            } catch (ArrayStoreException e) {
                return CAST;
            } catch (IndexOutOfBoundsException e) {
                return INDEX;
            }
            return n;
        }
    }

    private static final int[] ODD = {-1, 100, Integer.MIN_VALUE, Integer.MAX_VALUE, -2, 24, 25, 1000};

    /** Mostly from..to, at times just outside, seldom far away. */
    private static int num(Random r, int from, int to) {
        int dice = r.nextInt(60);
        if (dice == 0) return ODD[r.nextInt(ODD.length)];
        if (dice == 1) return from - 1;
        if (dice == 2) return to + 1;
        return from + r.nextInt(to - from + 1);
    }

    private static long text(Random r, int n, boolean rough) {
        long w = r.nextInt(9) == 0 ? r.nextLong() : 0;
        for (int k = 0; k < n; k++) {
            int b = '0' + r.nextInt(10);
            if (r.nextInt(12) == 0) b = ' ';
            if (rough && r.nextInt(8) == 0) b = 30 + r.nextInt(100);
            w = w << 8 | b;
        }
        return w;
    }

    private static void due(long seed, int call, String what, int got, int want) {
        made++;
        if (got != want && wrong++ < 50) {
            System.out.println("run " + seed + ", call " + call + ": " + what + " answered " + got + ", due is " + want);
        }
    }

    private static void fill(Random r, SpunTales x, Model m, long seed, int call, int top) {
        int s = r.nextInt(4), lane = r.nextInt(3);
        due(seed, call, "sheet", x.sheet(s, lane, 24), m.sheet(s, lane, 24));
        for (int i = 0; i < 16; i++) {
            int v = r.nextInt(top + 1);
            due(seed, call, "item", x.item(s, lane, i, v), m.item(s, lane, i, v));
        }
    }

    private static void oneRun(long seed) {
        Random r = new Random(seed * SPREAD);
        SpunTales x = new SpunTales();
        Model m = new Model();
        int mostTales = 1 + r.nextInt(8), longest = 1 + r.nextInt(8), alike = r.nextInt(3);
        made = 0;
        for (int call = 0; made <= MOST_CALLS - MOST_OF_A_STEP && wrong < 50; call++) {
            int what = r.nextInt(32);
            if (call < 12 && r.nextInt(5) > 0) what = r.nextInt(3);
            call(r, x, m, seed, call, what, mostTales, longest, alike);
        }
    }

    private static void call(Random r, SpunTales x, Model m, long seed, int call, int what, int mostTales, int longest,
            int alike) {
        int tale = num(r, 0, Math.max(0, m.now.tales.size() - 1));
        int teller = num(r, 0, Math.max(0, m.now.tellers.size() - 1));
        int spinner = num(r, 0, Math.max(0, m.now.spinners.size() - 1));
        int sheet = num(r, 0, 3);
        int lane = num(r, 0, 2);
        if (sheet >= 0 && sheet < 4 && m.sheets[sheet] != null && r.nextInt(8) > 0) lane = m.laneOf(m.sheets[sheet]);
        int at = r.nextInt(3) > 0 ? num(r, 0, 3) : num(r, 0, 24);
        int i, n, k, set, v;
        String say;
        switch (what) {
            case 0, 28 -> {
                if (m.now.tales.size() >= mostTales && r.nextInt(20) > 0) return;
                n = 1 + r.nextInt(longest);
                long w = text(r, n, r.nextInt(5) == 0);
                if (alike == 0) w = 0x3333363336393033L >>> 8 * (8 - n);
                n = r.nextInt(40) == 0 ? num(r, 1, 8) : n;
                due(seed, call, "type(" + w + ", " + n + ")", x.type(w, n), m.type(w, n));
                if (r.nextInt(6) > 0) due(seed, call, "tale()", x.tale(), m.tale());
            }
            case 1 -> { i = num(r, 0, 3); due(seed, call, "teller(" + i + ")", x.teller(i), m.teller(i)); }
            case 2 -> due(seed, call, "spinner()", x.spinner(), m.spinner());
            case 3 -> {
                i = num(r, -1, 8);
                v = num(r, 0, 9);
                due(seed, call, "change(" + tale + ", " + i + ", " + v + ")", x.change(tale, i, v), m.change(tale, i, v));
            }
            case 4 -> {
                v = r.nextBoolean() ? num(r, 1, 4) : num(r, 1, 99);
                if (r.nextInt(4) == 0) due(seed, call, "memory(" + v + ")", x.memory(v), m.memory(v));
            }
            case 5 -> { i = num(r, -1, 8); due(seed, call, "told(" + tale + ", " + i + ")", x.told(tale, i), m.told(tale, i)); }
            case 6 -> {
                i = num(r, 0, 8);
                due(seed, call, "tells(" + teller + ", " + tale + ", " + i + ")", x.tells(teller, tale, i), m.tells(teller, tale, i));
            }
            case 7 -> { i = num(r, 0, 3); due(seed, call, "yards(" + spinner + ", " + i + ")", x.yards(spinner, i), m.yards(spinner, i)); }
            case 8 -> {
                i = num(r, 0, 3);
                n = r.nextInt(4) == 0 ? num(r, 1, 999) : num(r, 1, 6);
                due(seed, call, "use(" + spinner + ", " + i + ", " + n + ")", x.use(spinner, i, n), m.use(spinner, i, n));
            }
            case 9 -> due(seed, call, "mind(" + spinner + ")", x.mind(spinner), m.mind(spinner));
            case 10 -> { i = num(r, 0, 6); due(seed, call, "count(" + i + ")", x.count(i), m.count(i)); }
            case 11, 12, 13, 29, 30 -> {
                n = num(r, 1, 9);
                set = num(r, 0, (1 << m.now.spinners.size()) - 1);
                if (r.nextInt(3) > 0 && m.broken() != null) { tale = m.broken().tale; teller = m.broken().teller; }
                say = "evening(" + teller + ", " + tale + ", " + n + ", " + set + ")";
                due(seed, call, say, x.evening(teller, tale, n, set), m.evening(teller, tale, n, set));
                for (int s = 0; s < m.now.spinners.size(); s++) {
                    due(seed, call, say + " mind(" + s + ")", x.mind(s), m.mind(s));
                    for (int q = 0; q < 4; q++) due(seed, call, say + " yards(" + s + ", " + q + ")", x.yards(s, q), m.yards(s, q));
                }
                for (int q = 3; q < 7; q++) due(seed, call, say + " count(" + q + ")", x.count(q), m.count(q));
            }
            case 14 -> {
                n = num(r, 1, 5);
                if (m.now.tales.size() > 5 && n > 3 && r.nextInt(4) > 0) n = 3;
                for (i = -2; i <= Math.min(5, n); i++) {
                    due(seed, call, "store(" + spinner + ", " + n + ", " + i + ")", x.store(spinner, n, i), m.store(spinner, n, i));
                }
            }
            case 15 -> {
                i = num(r, 1, 9);
                v = num(r, 0, 9);
                k = num(r, 0, 1);
                due(seed, call, "play(" + teller + ", " + tale + ", " + i + ", " + v + ", " + k + ")",
                        x.play(teller, tale, i, v, k), m.play(teller, tale, i, v, k));
            }
            case 16 -> {
                k = num(r, 0, 1);
                due(seed, call, "rests(" + teller + ", " + tale + ", " + k + ")", x.rests(teller, tale, k), m.rests(teller, tale, k));
            }
            case 17 -> { if (r.nextInt(4) == 0) due(seed, call, "image()", x.image(), m.image()); }
            case 18 -> { if (r.nextInt(4) == 0) due(seed, call, "restore()", x.restore(), m.restore()); }
            case 19, 31 -> {
                if (r.nextBoolean()) fill(r, x, m, seed, call, 1 + r.nextInt(r.nextInt(12) == 0 ? 99 : 6));
                if (m.now.tales.size() > 6 && m.now.tellers.size() > 2 && r.nextInt(30) > 0) return;
                for (k = -2; k < 9; k += 1 + r.nextInt(3)) {
                    due(seed, call, "coat(" + spinner + ", " + sheet + ", " + lane + ", " + at + ", " + k + ")",
                            x.coat(spinner, sheet, lane, at, k), m.coat(spinner, sheet, lane, at, k));
                }
            }
            case 20 -> readFitting(r, x, m, seed, call);
            case 21 -> {
                n = num(r, 1, 16);
                k = num(r, -1, 7);
                due(seed, call, "read(" + sheet + ", " + lane + ", " + at + ", " + n + ", " + k + ")",
                        x.read(sheet, lane, at, n, k), m.read(sheet, lane, at, n, k));
            }
            case 22 -> {
                int b = num(r, 0, Math.max(0, m.now.tales.size() - 1));
                say = "tangle(" + tale + ", " + b + ", " + sheet + ", " + lane + ", " + at + ")";
                int size = m.tangle(tale, b, sheet, lane, at);
                due(seed, call, say, x.tangle(tale, b, sheet, lane, at), size);
                n = size > 0 && r.nextInt(5) > 0 ? size : num(r, 1, 16);
                for (k = 0; k < 3; k++) due(seed, call, say + " untangle " + k, x.untangle(sheet, lane, at, n, k), m.untangle(sheet, lane, at, n, k));
            }
            case 23 -> {
                n = num(r, 1, 16);
                k = num(r, 0, 1);
                due(seed, call, "untangle", x.untangle(sheet, lane, at, n, k), m.untangle(sheet, lane, at, n, k));
            }
            case 24 -> passedFitting(r, x, m, seed, call, tale, sheet, lane, at);
            case 25 -> {
                n = num(r, 0, 24);
                if (r.nextInt(3) == 0) due(seed, call, "sheet", x.sheet(sheet, lane, n), m.sheet(sheet, lane, n));
                else if (r.nextInt(5) == 0) due(seed, call, "drop", x.drop(sheet), m.drop(sheet));
            }
            case 26 -> {
                long big = r.nextBoolean() ? r.nextLong() : r.nextInt(400) - 150;
                due(seed, call, "item", x.item(sheet, lane, at, big), m.item(sheet, lane, at, big));
            }
            default -> {
                int to = num(r, 0, 3), j = num(r, 0, 6);
                n = num(r, 0, 20);
                due(seed, call, "copy(" + sheet + ", " + at + ", " + to + ", " + j + ", " + n + ")",
                        x.copy(sheet, at, to, j, n), m.copy(sheet, at, to, j, n));
                compareSheets(r, x, m, seed, call);
            }
        }
    }

    /** What a sheet holds is seen through passed: a tale is only found if each item is as it should be. */
    private static void compareSheets(Random r, SpunTales x, Model m, long seed, int call) {
        int s = r.nextInt(4), lane = r.nextInt(3), i = r.nextInt(24), n = 1 + r.nextInt(4);
        due(seed, call, "read behind copy", x.read(s, lane, i, n, -1), m.read(s, lane, i, n, -1));
        due(seed, call, "untangle behind copy", x.untangle(s, lane, i, n, 0), m.untangle(s, lane, i, n, 0));
    }

    private static void readFitting(Random r, SpunTales x, Model m, long seed, int call) {
        List<Integer> sorts = new ArrayList<>();
        List<Integer> order = new ArrayList<>();
        for (int t = 0; t < m.now.tales.size(); t++) order.add(t);
        java.util.Collections.shuffle(order, r);
        for (int t : order) {
            if (sorts.size() + m.now.tales.get(t).length > 16) break;
            if (!sorts.isEmpty() && r.nextInt(6) == 0) break;
            for (int v : m.now.tales.get(t)) sorts.add(m.sort(v));
        }
        int s = r.nextInt(4), lane = r.nextInt(3), i = r.nextInt(9);
        due(seed, call, "sheet", x.sheet(s, lane, 24), m.sheet(s, lane, 24));
        for (int q = 0; q < sorts.size(); q++) {
            due(seed, call, "item", x.item(s, lane, i + q, sorts.get(q)), m.item(s, lane, i + q, sorts.get(q)));
        }
        for (int k = -2; k < 9; k++) {
            due(seed, call, "read", x.read(s, lane, i, sorts.size(), k), m.read(s, lane, i, sorts.size(), k));
        }
    }

    private static void passedFitting(Random r, SpunTales x, Model m, long seed, int call, int tale, int sheet, int lane,
            int at) {
        int k = num(r, 1, 3), n = num(r, 1, 9);
        if (m.isTale(tale) && !m.now.tellers.isEmpty() && r.nextInt(5) > 0) {
            int[] t = m.now.tales.get(tale);
            for (int q = 0; q < k && q < 3; q++) t = m.by(m.now.tellers.get(r.nextInt(m.now.tellers.size())), t);
            n = t.length;
            for (int q = 0; q < n; q++) due(seed, call, "item", x.item(sheet, lane, at + q, t[q]), m.item(sheet, lane, at + q, t[q]));
        }
        for (int j = -2; j < 4; j++) {
            due(seed, call, "passed(" + tale + ", " + k + ", " + sheet + ", " + lane + ", " + at + ", " + n + ", " + j + ")",
                    x.passed(tale, k, sheet, lane, at, n, j), m.passed(tale, k, sheet, lane, at, n, j));
        }
    }

    public static void main(String[] args) {
        int runs = args.length > 0 ? Integer.parseInt(args[0]) : 3000;
        for (long seed = 1; seed <= runs && wrong < 50; seed++) oneRun(seed);
        System.out.println(wrong == 0 ? "all answers are as the model's" : wrong + " answers are not as the model's");
        if (wrong != 0) System.exit(1);
    }
}

/** Wool that is spun while a tale is told: see README.md for its use. */
public final class SpunTales {
    public static final int BAD = -1, NOT = -2, FULL = -3, NONE = -4, NULL = -11, CAST = -12, INDEX = -13, SIZE = -14;

    private static final int MAX_TALES = 8, MAX_SENTENCES = 9, MAX_TELLERS = 4, MAX_SPINNERS = 4, SORTS = 4;
    private static final int MAX_TENSION = 9, MAX_MEMORY = 99, MAX_EVENINGS = 9999, MAX_USED = 999, MAX_WANTED = 99;
    private static final int MAX_STORE = 5, MAX_PASSED = 3, MAX_TAKEN = 16, MAX_THRESHOLD = 9;
    private static final int SHEETS = 4, LANES = 3, MAX_ITEMS = 24, BYTES = 0, SHORTS = 1;
    private static final int TAPE_ROOM = 24, MAX_TYPED = 8, BLANK = 32, LAST_SIGN = 126, FIRST_FAULT = -20;
    private static final int TRUE = 0, GRAND = 2, TURNED = 3;
    private static final int FIRST_MEMORY = 20, NOTHING = -1, GRANTED = 0, FAR_BELOW = -100000;

    private final Hearth hearth = new Hearth();
    private final Hearth kept = new Hearth();
    private boolean imageIsKept;
    private final Tape tape = new Tape();
    private final Sheet[] sheets = new Sheet[SHEETS];
    private final int[] taken = new int[MAX_TAKEN];
    private final int[] tangled = new int[2 * MAX_SENTENCES];
    private final StoreSearch storeSearch = new StoreSearch();
    private final CoatSearch coatSearch = new CoatSearch();
    private final RowReading rowReading = new RowReading();
    private final Passing passing = new Passing();
    private final Game game = new Game();

    public SpunTales() {
        for (int i = 0; i < SHEETS; i++) {
            sheets[i] = new Sheet();
        }
    }

    // ---- 1 tales, tellers, spinners

    public int type(long w, int n) {
        if (!isWithin(n, 1, MAX_TYPED)) {
            return BAD;
        }
        for (int k = 0; k < n; k++) {
            if (!isWithin(byteOf(w, k), BLANK, LAST_SIGN)) {
                return BAD;
            }
        }
        if (tape.size + n > TAPE_ROOM) {
            return FULL;
        }
        for (int k = n - 1; k >= 0; k--) {
            tape.append(byteOf(w, k));
        }
        return tape.size;
    }

    public int tale() {
        int digits = tape.parseInto(taken);
        tape.size = 0;
        if (digits < 0) {
            return digits;
        }
        return hearth.tales >= MAX_TALES ? FULL : hearth.addTale(taken, digits);
    }

    public int change(int tale, int i, int v) {
        if (!hearth.hasSentence(tale, i) || !isWithin(v, 0, MAX_TENSION)) {
            return BAD;
        }
        if (hearth.brokenTale == tale) {
            return NOT;
        }
        int before = hearth.tensions[tale][i];
        hearth.tensions[tale][i] = v;
        return before;
    }

    public int teller(int kind) {
        if (!isWithin(kind, TRUE, TURNED)) {
            return BAD;
        }
        if (hearth.tellers >= MAX_TELLERS) {
            return FULL;
        }
        hearth.kinds[hearth.tellers] = kind;
        return hearth.tellers++;
    }

    public int spinner() {
        return hearth.spinners >= MAX_SPINNERS ? FULL : hearth.spinners++;
    }

    public int memory(int v) {
        if (!isWithin(v, 1, MAX_MEMORY)) {
            return BAD;
        }
        int before = hearth.memory;
        hearth.memory = v;
        return before;
    }

    public int told(int tale, int i) {
        if (i == -1 && hearth.hasTale(tale)) {
            return hearth.lengths[tale];
        }
        return hearth.hasSentence(tale, i) ? hearth.tensions[tale][i] : BAD;
    }

    public int tells(int teller, int tale, int i) {
        if (!hearth.hasTeller(teller) || !hearth.hasSentence(tale, i)) {
            return BAD;
        }
        return hearth.tensionBy(teller, tale, i);
    }

    public int yards(int spinner, int sort) {
        return hearth.hasSpinner(spinner) && isSort(sort) ? hearth.yards[spinner][sort] : BAD;
    }

    public int use(int spinner, int sort, int n) {
        if (!hearth.hasSpinner(spinner) || !isSort(sort) || !isWithin(n, 1, MAX_USED)) {
            return BAD;
        }
        if (hearth.yards[spinner][sort] < n) {
            return NOT;
        }
        hearth.yards[spinner][sort] -= n;
        return hearth.yards[spinner][sort];
    }

    public int mind(int spinner) {
        if (!hearth.hasSpinner(spinner)) {
            return BAD;
        }
        int set = 0;
        for (int tale = 0; tale < hearth.tales; tale++) {
            if (hearth.isInMind(spinner, tale, hearth.evenings + 1)) {
                set |= 1 << tale;
            }
        }
        return set;
    }

    public int count(int what) {
        if (!isWithin(what, 0, 6)) {
            return BAD;
        }
        if (what >= 4 && hearth.brokenTale == NOTHING) {
            return NONE;
        }
        switch (what) {
            case 0: return hearth.tales;
            case 1: return hearth.tellers;
            case 2: return hearth.spinners;
            case 3: return hearth.evenings;
            case 4: return hearth.brokenTale;
            case 5: return hearth.brokenTeller;
            default: return hearth.brokenAt;
        }
    }

    // ---- 2 evenings

    public int evening(int teller, int tale, int n, int set) {
        if (!hearth.hasTeller(teller) || !hearth.hasTale(tale) || !isWithin(n, 1, MAX_SENTENCES)
                || !hearth.hasAllOf(set)) {
            return BAD;
        }
        return hearth.evenings >= MAX_EVENINGS ? FULL : hearth.spend(teller, tale, n, set);
    }

    // ---- 3 coats, stores, plays

    public int store(int spinner, int n, int i) {
        if (!hearth.hasSpinner(spinner) || !isWithin(n, 1, MAX_STORE) || !isWithin(i, -1, n - 1)) {
            return BAD;
        }
        if (hearth.tales == 0) {
            return NONE;
        }
        storeSearch.run(hearth, spinner, n);
        return i == -1 ? storeSearch.bestSum : storeSearch.best[i];
    }

    public int play(int teller, int tale, int j, int p, int what) {
        if (!hearth.hasTeller(teller) || !hearth.hasSentence(tale, j - 1) || !isWithin(p, 0, MAX_THRESHOLD)
                || !isWithin(what, 0, 1)) {
            return FAR_BELOW + BAD;
        }
        game.begin(hearth, teller, tale);
        return what == 0 ? game.tellerPoints(j, p) : game.spinnerPoints(j, p);
    }

    public int rests(int teller, int tale, int what) {
        if (!hearth.hasTeller(teller) || !hearth.hasTale(tale) || !isWithin(what, 0, 1)) {
            return BAD;
        }
        game.begin(hearth, teller, tale);
        game.findRests();
        return firstOrCount(game.rests, game.firstRest, what);
    }

    public int image() {
        kept.becomeLike(hearth);
        imageIsKept = true;
        return 1;
    }

    public int restore() {
        if (!imageIsKept) {
            return NONE;
        }
        hearth.becomeLike(kept);
        return 1;
    }

    // ---- 4 sheets

    public int coat(int spinner, int sheet, int lane, int i, int k) {
        if (!hearth.hasSpinner(spinner) || !isSheetOfLane(sheet, lane) || !isWithin(k, -1, MAX_TALES - 1)) {
            return BAD;
        }
        int refused = takeItems(sheet, lane, i, SORTS, MAX_WANTED);
        if (refused != GRANTED) {
            return refused;
        }
        coatSearch.run(hearth, spinner, taken);
        if (!coatSearch.isFound()) {
            return NONE;
        }
        if (k == -1) {
            return coatSearch.bestSize;
        }
        return k < coatSearch.bestSize ? coatSearch.best[k] : NONE;
    }

    public int read(int sheet, int lane, int i, int n, int k) {
        if (!isSheetOfLane(sheet, lane) || !isWithin(n, 1, MAX_TAKEN) || !isWithin(k, -1, MAX_TALES - 1)) {
            return BAD;
        }
        int refused = takeItems(sheet, lane, i, n, SORTS - 1);
        if (refused != GRANTED) {
            return refused;
        }
        rowReading.run(hearth, taken, n);
        if (k == -1) {
            return rowReading.rows;
        }
        return k < rowReading.firstSize ? rowReading.first[k] : NONE;
    }

    public int untangle(int sheet, int lane, int i, int n, int what) {
        if (!isSheetOfLane(sheet, lane) || !isWithin(n, 1, MAX_TAKEN) || !isWithin(what, 0, 1)) {
            return BAD;
        }
        int refused = takeItems(sheet, lane, i, n, MAX_TENSION);
        if (refused != GRANTED) {
            return refused;
        }
        int pairs = 0;
        int first = NONE;
        for (int a = 0; a < hearth.tales; a++) {
            for (int b = 0; b < hearth.tales; b++) {
                if (a != b && areTangledTo(a, b, n)) {
                    first = pairs == 0 ? 10 * a + b : first;
                    pairs++;
                }
            }
        }
        return firstOrCount(pairs, first, what);
    }

    public int tangle(int a, int b, int sheet, int lane, int i) {
        if (!hearth.hasTale(a) || !hearth.hasTale(b) || a == b || !isSheetOfLane(sheet, lane)) {
            return BAD;
        }
        int size = hearth.tangleInto(tangled, a, b);
        int refused = sheets[sheet].refusal(lane, i, size);
        if (refused != GRANTED) {
            return refused;
        }
        for (int k = 0; k < size; k++) {
            sheets[sheet].put(i + k, tangled[k]);
        }
        return size;
    }

    public int passed(int tale, int k, int sheet, int lane, int i, int n, int j) {
        if (!hearth.hasTale(tale) || !isWithin(k, 1, MAX_PASSED) || !isSheetOfLane(sheet, lane)
                || !isWithin(n, 1, MAX_SENTENCES) || !isWithin(j, -1, k - 1)) {
            return BAD;
        }
        int refused = takeItems(sheet, lane, i, n, MAX_TENSION);
        if (refused != GRANTED) {
            return refused;
        }
        passing.run(hearth, tale, k, taken, n);
        if (j == -1) {
            return passing.rows;
        }
        return passing.rows == 0 ? NONE : passing.first[j];
    }

    public int sheet(int sheet, int lane, int n) {
        if (!isSheetOfLane(sheet, lane) || n > MAX_ITEMS) {
            return BAD;
        }
        if (n < 0) {
            return SIZE;
        }
        sheets[sheet].begin(lane, n);
        return n;
    }

    public int drop(int sheet) {
        if (!isSheet(sheet)) {
            return BAD;
        }
        if (sheets[sheet].lane == NOTHING) {
            return NULL;
        }
        sheets[sheet].lane = NOTHING;
        return sheets[sheet].size;
    }

    public int item(int sheet, int lane, int i, long v) {
        if (!isSheetOfLane(sheet, lane)) {
            return BAD;
        }
        int refused = sheets[sheet].refusal(lane, i, 1);
        if (refused != GRANTED) {
            return refused;
        }
        sheets[sheet].put(i, v);
        return 1;
    }

    public int copy(int from, int i, int to, int j, int n) {
        if (!isSheet(from) || !isSheet(to)) {
            return BAD;
        }
        Sheet source = sheets[from];
        Sheet target = sheets[to];
        if (source.lane == NOTHING || target.lane == NOTHING) {
            return NULL;
        }
        if (source.lane != target.lane) {
            return CAST;
        }
        if (!source.hasItems(i, n) || !target.hasItems(j, n)) {
            return INDEX;
        }
        System.arraycopy(source.items, i, target.items, j, n);
        return n;
    }

    // ---- what the calls share

    private static boolean isWithin(int v, int least, int most) {
        return v >= least && v <= most;
    }

    private static boolean isSort(int sort) {
        return isWithin(sort, 0, SORTS - 1);
    }

    private static boolean isSheet(int sheet) {
        return isWithin(sheet, 0, SHEETS - 1);
    }

    private static boolean isSheetOfLane(int sheet, int lane) {
        return isSheet(sheet) && isWithin(lane, 0, LANES - 1);
    }

    private static int byteOf(long w, int k) {
        return (int) (w >>> (8 * k)) & 255;
    }

    private static int sortOf(int tension) {
        return tension / 3;
    }

    private static int duller(int sort) {
        return sort > 0 ? sort - 1 : 0;
    }

    private static boolean isRemembered(int lastHeard, int evening, int memory) {
        return lastHeard > 0 && evening - lastHeard <= memory;
    }

    private static boolean areSame(int[] a, int[] b, int n) {
        for (int i = 0; i < n; i++) {
            if (a[i] != b[i]) {
                return false;
            }
        }
        return true;
    }

    private static int asToldBy(int kind, int tension) {
        if (kind == TRUE) {
            return tension;
        }
        return kind == GRAND ? Math.min(MAX_TENSION, tension + 2) : Math.max(0, tension - 1);
    }

    private static void retell(int kind, int[] from, int[] to, int n) {
        for (int i = 0; i < n; i++) {
            to[i] = asToldBy(kind, from[kind == TURNED ? n - 1 - i : i]);
        }
    }

    private static int firstOrCount(int count, int first, int what) {
        if (what == 0) {
            return count;
        }
        return count == 0 ? NONE : first;
    }

    private int takeItems(int sheet, int lane, int i, int n, int most) {
        int refused = sheets[sheet].refusal(lane, i, n);
        if (refused != GRANTED) {
            return refused;
        }
        for (int k = 0; k < n; k++) {
            taken[k] = sheets[sheet].items[i + k];
            if (!isWithin(taken[k], 0, most)) {
                return NOT;
            }
        }
        return GRANTED;
    }

    private boolean areTangledTo(int a, int b, int n) {
        if (hearth.lengths[a] + hearth.lengths[b] != n) {
            return false;
        }
        hearth.tangleInto(tangled, a, b);
        return areSame(tangled, taken, n);
    }

    /** All that an image keeps. */
    private static final class Hearth {
        int tales, tellers, spinners, evenings;
        int memory = FIRST_MEMORY;
        final int[] lengths = new int[MAX_TALES];
        final int[][] tensions = new int[MAX_TALES][MAX_SENTENCES];
        final int[] kinds = new int[MAX_TELLERS];
        final int[][] yards = new int[MAX_SPINNERS][SORTS];
        /** The last evening in which a tale was told to its end to a spinner; 0 if it never was. */
        final int[][] heard = new int[MAX_SPINNERS][MAX_TALES];
        int brokenTale = NOTHING, brokenTeller, brokenAt;
        /** Who was of the set in all evenings since the broken off tale was begun. */
        int faithful;

        boolean hasTale(int tale) {
            return isWithin(tale, 0, tales - 1);
        }

        boolean hasSentence(int tale, int i) {
            return hasTale(tale) && isWithin(i, 0, lengths[tale] - 1);
        }

        boolean hasTeller(int teller) {
            return isWithin(teller, 0, tellers - 1);
        }

        boolean hasSpinner(int spinner) {
            return isWithin(spinner, 0, spinners - 1);
        }

        boolean hasAllOf(int set) {
            return isWithin(set, 0, (1 << spinners) - 1);
        }

        int addTale(int[] row, int n) {
            System.arraycopy(row, 0, tensions[tales], 0, n);
            lengths[tales] = n;
            return tales++;
        }

        int tensionBy(int teller, int tale, int i) {
            int place = kinds[teller] == TURNED ? lengths[tale] - 1 - i : i;
            return asToldBy(kinds[teller], tensions[tale][place]);
        }

        boolean isInMind(int spinner, int tale, int evening) {
            return isRemembered(heard[spinner][tale], evening, memory);
        }

        int spend(int teller, int tale, int n, int set) {
            boolean goesOn = brokenTale == tale && brokenTeller == teller;
            int from = goesOn ? brokenAt : 0;
            int to = Math.min(from + n, lengths[tale]);
            faithful = goesOn ? faithful & set : set;
            evenings++;
            for (int spinner = 0; spinner < spinners; spinner++) {
                if ((set >> spinner & 1) != 0) {
                    spin(yards[spinner], teller, tale, from, to, isInMind(spinner, tale, evenings));
                }
            }
            if (to < lengths[tale]) {
                brokenTale = tale;
                brokenTeller = teller;
                brokenAt = to;
            } else {
                brokenTale = NOTHING;
                keepInMind(tale, faithful);
            }
            return (to - from) * Integer.bitCount(set);
        }

        void spin(int[] spun, int teller, int tale, int from, int to, boolean inMind) {
            for (int i = from; i < to; i++) {
                int sort = sortOf(tensionBy(teller, tale, i));
                spun[inMind ? duller(sort) : sort]++;
            }
        }

        private void keepInMind(int tale, int set) {
            for (int spinner = 0; spinner < spinners; spinner++) {
                if ((set >> spinner & 1) != 0) {
                    heard[spinner][tale] = evenings;
                }
            }
        }

        int tangleInto(int[] row, int a, int b) {
            int size = 0;
            for (int i = 0; i < MAX_SENTENCES; i++) {
                if (i < lengths[a]) {
                    row[size++] = tensions[a][i];
                }
                if (i < lengths[b]) {
                    row[size++] = tensions[b][i];
                }
            }
            return size;
        }

        void becomeLike(Hearth other) {
            tales = other.tales;
            tellers = other.tellers;
            spinners = other.spinners;
            evenings = other.evenings;
            memory = other.memory;
            brokenTale = other.brokenTale;
            brokenTeller = other.brokenTeller;
            brokenAt = other.brokenAt;
            faithful = other.faithful;
            System.arraycopy(other.lengths, 0, lengths, 0, MAX_TALES);
            System.arraycopy(other.kinds, 0, kinds, 0, MAX_TELLERS);
            for (int tale = 0; tale < MAX_TALES; tale++) {
                System.arraycopy(other.tensions[tale], 0, tensions[tale], 0, MAX_SENTENCES);
            }
            for (int spinner = 0; spinner < MAX_SPINNERS; spinner++) {
                System.arraycopy(other.yards[spinner], 0, yards[spinner], 0, SORTS);
                System.arraycopy(other.heard[spinner], 0, heard[spinner], 0, MAX_TALES);
            }
        }
    }

    private static final class Tape {
        final int[] signs = new int[TAPE_ROOM];
        int size;

        void append(int sign) {
            if (size < TAPE_ROOM) {
                signs[size++] = sign;
            }
        }

        /** Answers how many digits came to the row, or a FAULT. */
        int parseInto(int[] row) {
            int digits = 0;
            for (int at = 0; at < size; at++) {
                if (signs[at] == BLANK) {
                    continue;
                }
                if (!isWithin(signs[at], '0', '9') || digits >= MAX_SENTENCES) {
                    return FIRST_FAULT - at;
                }
                row[digits++] = signs[at] - '0';
            }
            return digits > 0 ? digits : FIRST_FAULT - size;
        }
    }

    /** Its items stand in ints whatever the lane is, so that no call makes a new row. */
    private static final class Sheet {
        int lane = NOTHING, size;
        final int[] items = new int[MAX_ITEMS];

        void begin(int newLane, int newSize) {
            lane = newLane;
            size = newSize;
            for (int i = 0; i < MAX_ITEMS; i++) {
                items[i] = 0;
            }
        }

        boolean hasItems(int i, int n) {
            return i >= 0 && n >= 0 && i <= size - n;
        }

        int refusal(int askedLane, int i, int n) {
            if (lane == NOTHING) {
                return NULL;
            }
            if (lane != askedLane) {
                return CAST;
            }
            return hasItems(i, n) ? GRANTED : INDEX;
        }

        void put(int i, long v) {
            if (lane == BYTES) {
                items[i] = (byte) v;
            } else if (lane == SHORTS) {
                items[i] = (short) v;
            } else {
                items[i] = (int) v;
            }
        }
    }

    /** Tries the rows of tales in their order, so that of like sums the first row stays. */
    private static final class StoreSearch {
        final int[] fresh = new int[MAX_TALES], stale = new int[MAX_TALES], heard = new int[MAX_TALES];
        final int[] row = new int[MAX_STORE], best = new int[MAX_STORE];
        int tales, evenings, nextEvening, memory, freshest, bestSum;

        void run(Hearth hearth, int spinner, int n) {
            tales = hearth.tales;
            evenings = n;
            nextEvening = hearth.evenings + 1;
            memory = hearth.memory;
            freshest = 0;
            bestSum = -1;
            for (int tale = 0; tale < tales; tale++) {
                heard[tale] = hearth.heard[spinner][tale];
                weigh(hearth, tale);
                freshest = Math.max(freshest, fresh[tale]);
            }
            search(0, 0);
        }

        private void weigh(Hearth hearth, int tale) {
            fresh[tale] = 0;
            stale[tale] = 0;
            for (int i = 0; i < hearth.lengths[tale]; i++) {
                int sort = sortOf(hearth.tensions[tale][i]);
                fresh[tale] += sort;
                stale[tale] += duller(sort);
            }
        }

        private void search(int at, int sum) {
            // Only more than the best counts, and no evening gives more than the freshest tale.
            if (sum + (evenings - at) * freshest <= bestSum) {
                return;
            }
            if (at >= evenings) {
                bestSum = sum;
                System.arraycopy(row, 0, best, 0, evenings);
                return;
            }
            int evening = nextEvening + at;
            for (int tale = 0; tale < tales; tale++) {
                int last = heard[tale];
                boolean inMind = isRemembered(last, evening, memory);
                row[at] = tale;
                heard[tale] = evening;
                search(at + 1, sum + (inMind ? stale[tale] : fresh[tale]));
                heard[tale] = last;
            }
        }
    }

    /** Tries to take each tale ahead of leaving it out, so that of rows of one size the first comes first. */
    private static final class CoatSearch {
        final int[][] spun = new int[MAX_TALES * MAX_TELLERS][SORTS];
        final boolean[] isNew = new boolean[MAX_TALES * MAX_TELLERS];
        /** What the tales from one on could give of each sort, if each gave its most of it. */
        final int[][] hope = new int[MAX_TALES + 1][SORTS];
        final int[] missing = new int[SORTS];
        final int[] row = new int[MAX_TALES], best = new int[MAX_TALES];
        int tales, tellers, bestSize;

        void run(Hearth hearth, int spinner, int[] wanted) {
            tales = hearth.tales;
            tellers = hearth.tellers;
            bestSize = MAX_TALES + 1;
            for (int sort = 0; sort < SORTS; sort++) {
                missing[sort] = wanted[sort];
                hope[tales][sort] = 0;
            }
            for (int tale = tales - 1; tale >= 0; tale--) {
                spinAll(hearth, spinner, tale);
                addHope(tale);
            }
            search(0, 0);
        }

        boolean isFound() {
            return bestSize <= MAX_TALES;
        }

        private static int place(int tale, int teller) {
            return tale * MAX_TELLERS + teller;
        }

        private void spinAll(Hearth hearth, int spinner, int tale) {
            boolean inMind = hearth.isInMind(spinner, tale, hearth.evenings + 1);
            for (int teller = 0; teller < tellers; teller++) {
                int[] here = spun[place(tale, teller)];
                for (int sort = 0; sort < SORTS; sort++) {
                    here[sort] = 0;
                }
                hearth.spin(here, teller, tale, 0, hearth.lengths[tale], inMind);
                isNew[place(tale, teller)] = isUnlikeEarlier(tale, teller);
            }
        }

        /** A teller by whom a tale gives what it gives by an earlier one is never in the first row. */
        private boolean isUnlikeEarlier(int tale, int teller) {
            for (int earlier = 0; earlier < teller; earlier++) {
                if (areSame(spun[place(tale, earlier)], spun[place(tale, teller)], SORTS)) {
                    return false;
                }
            }
            return true;
        }

        private void addHope(int tale) {
            for (int sort = 0; sort < SORTS; sort++) {
                int most = 0;
                for (int teller = 0; teller < tellers; teller++) {
                    most = Math.max(most, spun[place(tale, teller)][sort]);
                }
                hope[tale][sort] = hope[tale + 1][sort] + most;
            }
        }

        private boolean isCovered(int[] by) {
            for (int sort = 0; sort < SORTS; sort++) {
                if (missing[sort] > by[sort]) {
                    return false;
                }
            }
            return true;
        }

        private void search(int tale, int size) {
            if (size >= bestSize || !isCovered(hope[tale])) {
                return;
            }
            if (isCovered(hope[tales])) {
                bestSize = size;
                System.arraycopy(row, 0, best, 0, size);
                return;
            }
            if (tale >= tales || size + 1 >= bestSize) {
                return;
            }
            for (int teller = 0; teller < tellers; teller++) {
                if (isNew[place(tale, teller)]) {
                    row[size] = 10 * tale + teller;
                    take(place(tale, teller), 1);
                    search(tale + 1, size + 1);
                    take(place(tale, teller), -1);
                }
            }
            search(tale + 1, size);
        }

        private void take(int place, int times) {
            for (int sort = 0; sort < SORTS; sort++) {
                missing[sort] -= times * spun[place][sort];
            }
        }
    }

    /** Counts by sets of tales: how far a row has come is told by the set alone. */
    private static final class RowReading {
        final int[] ways = new int[1 << MAX_TALES];
        final int[] first = new int[MAX_TALES];
        int rows, firstSize;

        void run(Hearth hearth, int[] sorts, int n) {
            for (int set = (1 << hearth.tales) - 1; set >= 0; set--) {
                int at = sentencesOf(hearth, set);
                ways[set] = at == n ? 1 : waysOn(hearth, sorts, n, set, at);
            }
            rows = ways[0];
            firstSize = 0;
            if (rows > 0) {
                followFirst(hearth, sorts, n);
            }
        }

        private static int sentencesOf(Hearth hearth, int set) {
            int sentences = 0;
            for (int tale = 0; tale < hearth.tales; tale++) {
                if ((set >> tale & 1) != 0) {
                    sentences += hearth.lengths[tale];
                }
            }
            return sentences;
        }

        private int waysOn(Hearth hearth, int[] sorts, int n, int set, int at) {
            int sum = 0;
            for (int tale = 0; tale < hearth.tales; tale++) {
                if ((set >> tale & 1) == 0 && fits(hearth, tale, sorts, n, at)) {
                    sum += ways[set | 1 << tale];
                }
            }
            return sum;
        }

        private static boolean fits(Hearth hearth, int tale, int[] sorts, int n, int at) {
            int length = hearth.lengths[tale];
            if (at + length > n) {
                return false;
            }
            for (int i = 0; i < length; i++) {
                if (sortOf(hearth.tensions[tale][i]) != sorts[at + i]) {
                    return false;
                }
            }
            return true;
        }

        private void followFirst(Hearth hearth, int[] sorts, int n) {
            int set = 0;
            int at = 0;
            while (at < n && firstSize < MAX_TALES) {
                int tale = firstOn(hearth, sorts, n, set, at);
                if (tale == NOTHING) {
                    return;
                }
                first[firstSize++] = tale;
                set |= 1 << tale;
                at += hearth.lengths[tale];
            }
        }

        private int firstOn(Hearth hearth, int[] sorts, int n, int set, int at) {
            for (int tale = 0; tale < hearth.tales; tale++) {
                if ((set >> tale & 1) == 0 && fits(hearth, tale, sorts, n, at) && ways[set | 1 << tale] > 0) {
                    return tale;
                }
            }
            return NOTHING;
        }
    }

    private static final class Passing {
        /** The tale as it is behind so many tellers. */
        final int[][] versions = new int[MAX_PASSED + 1][MAX_SENTENCES];
        final int[] kinds = new int[MAX_TELLERS];
        final int[] goal = new int[MAX_SENTENCES];
        final int[] row = new int[MAX_PASSED], first = new int[MAX_PASSED];
        int tellers, length, steps, rows;

        void run(Hearth hearth, int tale, int k, int[] wanted, int n) {
            rows = 0;
            length = hearth.lengths[tale];
            if (length != n) {
                return;
            }
            tellers = hearth.tellers;
            steps = k;
            System.arraycopy(hearth.kinds, 0, kinds, 0, tellers);
            System.arraycopy(wanted, 0, goal, 0, n);
            System.arraycopy(hearth.tensions[tale], 0, versions[0], 0, n);
            search(0);
        }

        private void search(int step) {
            if (step >= steps) {
                if (areSame(versions[steps], goal, length)) {
                    keepRow();
                }
                return;
            }
            for (int teller = 0; teller < tellers; teller++) {
                row[step] = teller;
                retell(kinds[teller], versions[step], versions[step + 1], length);
                search(step + 1);
            }
        }

        private void keepRow() {
            if (rows == 0) {
                System.arraycopy(row, 0, first, 0, steps);
            }
            rows++;
        }
    }

    private static final class Game {
        final int[] tensions = new int[MAX_SENTENCES];
        int length, rests, firstRest;

        void begin(Hearth hearth, int teller, int tale) {
            length = hearth.lengths[tale];
            retell(hearth.kinds[teller], hearth.tensions[tale], tensions, length);
        }

        private int heardUntilGone(int p) {
            for (int i = 0; i < length; i++) {
                if (tensions[i] < p) {
                    return i;
                }
            }
            return length;
        }

        int tellerPoints(int j, int p) {
            int gone = heardUntilGone(p);
            return gone < j ? gone - 3 : j;
        }

        int spinnerPoints(int j, int p) {
            int told = Math.min(j, heardUntilGone(p));
            int points = 0;
            for (int i = 0; i < told; i++) {
                points += sortOf(tensions[i]) - 1;
            }
            return points;
        }

        void findRests() {
            rests = 0;
            firstRest = NONE;
            for (int j = 1; j <= length; j++) {
                for (int p = 0; p <= MAX_THRESHOLD; p++) {
                    if (tellerRests(j, p) && spinnerRests(j, p)) {
                        firstRest = rests == 0 ? 10 * j + p : firstRest;
                        rests++;
                    }
                }
            }
        }

        private boolean tellerRests(int j, int p) {
            int points = tellerPoints(j, p);
            for (int other = 1; other <= length; other++) {
                if (tellerPoints(other, p) > points) {
                    return false;
                }
            }
            return true;
        }

        private boolean spinnerRests(int j, int p) {
            int points = spinnerPoints(j, p);
            for (int other = 0; other <= MAX_THRESHOLD; other++) {
                if (spinnerPoints(j, other) > points) {
                    return false;
                }
            }
            return true;
        }
    }
}

import java.util.ArrayList;
import java.util.Arrays;
import java.util.List;

/**
 * What each call refuses: the edges of each of its numbers, which of two refusals is answered, and that a refused call
 * has changed nothing. Each is held in an object that has nothing, one that has one of all, and one that is full.
 */
public final class RefusalTests {
    private static final int BAD = -1, NOT = -2, FULL = -3, NONE = -4, NULL = -11, CAST = -12, INDEX = -13, SIZE = -14;
    private static final int LOW = Integer.MIN_VALUE, HIGH = Integer.MAX_VALUE;
    private static final long EIGHT_DIGITS = 0x3132333435363738L;
    private static final int[][] ITEMS = {
        {1, 2, 3, 0, 5, 9}, {3, 2, 1, 0, 4}, {0, 1, 2, 3, 4, 5, 6, 7, 8, 9, 0, 1, 2, 3, 4, 5, 6, 7, 8, 9, 0, 1, 2, 3}};
    private static int wrong = 0;
    private static int held = 0;

    private interface Made { SpunTales anew(); }

    private interface Ahead { void run(SpunTales x); }

    private interface Face { int answer(SpunTales x, int[] a); }

    /** A number that a call takes: a usual one, and the least and the most that are not BAD (none are, if least is more). */
    private record Number(int usual, int least, int most) {
        boolean takes(long v) { return least <= v && v <= most; }
    }

    private record Call(String name, int refusedBy, Face face, Number... numbers) {
        int[] usual() {
            int[] a = new int[numbers.length];
            for (int i = 0; i < a.length; i++) a[i] = numbers[i].usual;
            return a;
        }

        boolean takesAllBut(int place) {
            for (int i = 0; i < numbers.length; i++) if (i != place && !numbers[i].takes(numbers[i].usual)) return false;
            return true;
        }
    }

    /** Something for which a call is refused: what was run ahead of it, or a number in a place. */
    private record Fault(int answer, Ahead ahead, int place, int value) {
        static Fault of(int answer, int place, int value) { return new Fault(answer, x -> { }, place, value); }
        static Fault behind(int answer, Ahead ahead) { return new Fault(answer, ahead, -1, 0); }
    }

    private static void due(String what, Object got, Object want) {
        held++;
        if (!got.equals(want)) {
            wrong++;
            System.out.println(what + ": " + got + ", due is " + want);
        }
    }

    // ---- objects

    private static void tales(SpunTales x, String... texts) {
        for (String text : texts) {
            for (char c : text.toCharArray()) x.type(c, 1);
            x.tale();
        }
    }

    private static void sheets(SpunTales x) {
        for (int s = 0; s < ITEMS.length; s++) {
            x.sheet(s, s, ITEMS[s].length);
            for (int i = 0; i < ITEMS[s].length; i++) x.item(s, s, i, ITEMS[s][i]);
        }
    }

    private static SpunTales nothing() {
        return new SpunTales();
    }

    private static SpunTales one() {
        SpunTales x = new SpunTales();
        x.image();
        tales(x, "5");
        x.teller(0);
        x.spinner();
        x.evening(0, 0, 1, 1);
        sheets(x);
        x.type('7', 1);
        return x;
    }

    private static SpunTales full() {
        SpunTales x = fullButTheTape();
        x.type(0x203432L, 3);
        return x;
    }

    /** An object in which tale 7 is broken off, with an image in which tale 1 is. */
    private static SpunTales fullButTheTape() {
        SpunTales x = new SpunTales();
        tales(x, "5", "369036903", "99");
        x.teller(0);
        x.teller(1);
        x.spinner();
        x.spinner();
        x.evening(0, 0, 1, 1);
        x.evening(1, 1, 2, 3);
        x.image();
        tales(x, "012", "4", "7654", "88", "123");
        x.teller(2);
        x.teller(3);
        x.spinner();
        x.spinner();
        x.memory(7);
        x.evening(0, 2, 9, 15);
        x.evening(2, 7, 1, 7);
        sheets(x);
        return x;
    }

    // ---- all that calls tell of an object (what is asked may change it, so it is asked of twins alone)

    private static List<Integer> all(SpunTales x) {
        List<Integer> out = new ArrayList<>();
        addHearth(x, out);
        addSheets(x, out);
        out.add(x.evening(2, 7, 9, 15));
        addHearth(x, out);
        out.add(x.restore());
        addHearth(x, out);
        out.add(x.evening(1, 1, 9, 1));
        out.add(x.mind(0));
        out.add(x.type(' ', 1));
        int tale = x.tale();
        out.add(tale);
        for (int i = -1; i < 9; i++) out.add(x.told(tale, i));
        return out;
    }

    private static void addHearth(SpunTales x, List<Integer> out) {
        for (int what = 0; what < 7; what++) out.add(x.count(what));
        for (int tale = 0; tale < x.count(0); tale++) {
            int sentences = x.told(tale, -1);
            for (int i = 0; i < sentences; i++) out.add(x.told(tale, i));
        }
        for (int teller = 0; teller < 4; teller++) for (int i = 0; i < 3; i++) out.add(x.tells(teller, 1, i));
        for (int spinner = 0; spinner < 4; spinner++) {
            out.add(x.mind(spinner));
            for (int sort = 0; sort < 4; sort++) out.add(x.yards(spinner, sort));
        }
        int memory = x.memory(50);
        out.add(memory);
        x.memory(memory);
    }

    private static void addSheets(SpunTales x, List<Integer> out) {
        int first = x.told(0, 0);
        for (int s = 0; s < 4; s++) {
            for (int lane = 0; lane < 3; lane++) out.add(x.item(s, lane, 24, 0));
            for (int i = 0; s < 3 && i < ITEMS[s].length; i++) {
                x.change(0, 0, ITEMS[s][i]);
                out.add(x.passed(0, 1, s, s, i, 1, 0));
                out.add(x.read(s, s, i, 1, 0));
            }
            out.add(x.drop(s));
        }
        x.change(0, 0, first);
    }

    /** The call's answer, and that all is as in an object on which it was not called. */
    private static void refused(String what, Made made, Ahead ahead, Face face, int[] a, int want) {
        SpunTales x = made.anew();
        SpunTales twin = made.anew();
        ahead.run(x);
        ahead.run(twin);
        String call = what + " " + Arrays.toString(a);
        due(call, face.answer(x, a), want);
        due(call + ": nothing is changed", all(x).equals(all(twin)), true);
    }

    // ---- the edges of each number

    private static Number any(int usual) {
        return new Number(usual, LOW, HIGH);
    }

    private static Number from(int least, int most, int usual) {
        return new Number(usual, least, most);
    }

    /** Every call with numbers, for an object with so many tales, tellers, spinners, of which a usual tale has so many sentences. */
    private static List<Call> calls(int tales, int tellers, int spinners, int tale, int sentences) {
        Number aTale = from(0, tales - 1, tale);
        Number unlike = from(0, tales > 1 ? tales - 1 : -1, 3);
        Number aTeller = from(0, tellers - 1, 0);
        Number aSpinner = from(0, spinners - 1, 0);
        Number sentence = from(0, sentences - 1, 0);
        Number sort = from(0, 3, 0);
        Number sheet = from(0, 3, 0);
        Number lane = from(0, 2, 0);
        Number zeroOrOne = from(0, 1, 0);
        return List.of(
            new Call("type", BAD, (x, a) -> x.type(EIGHT_DIGITS, a[0]), from(1, 8, 1)),
            new Call("change", BAD, (x, a) -> x.change(a[0], a[1], a[2]), aTale, sentence, from(0, 9, 5)),
            new Call("teller", BAD, (x, a) -> x.teller(a[0]), from(0, 3, 0)),
            new Call("memory", BAD, (x, a) -> x.memory(a[0]), from(1, 99, 9)),
            new Call("told", BAD, (x, a) -> x.told(a[0], a[1]), aTale, from(-1, sentences - 1, -1)),
            new Call("tells", BAD, (x, a) -> x.tells(a[0], a[1], a[2]), aTeller, aTale, sentence),
            new Call("yards", BAD, (x, a) -> x.yards(a[0], a[1]), aSpinner, sort),
            new Call("use", BAD, (x, a) -> x.use(a[0], a[1], a[2]), aSpinner, sort, from(1, 999, 1)),
            new Call("mind", BAD, (x, a) -> x.mind(a[0]), aSpinner),
            new Call("count", BAD, (x, a) -> x.count(a[0]), from(0, 6, 0)),
            new Call("evening", BAD, (x, a) -> x.evening(a[0], a[1], a[2], a[3]), aTeller, aTale, from(1, 9, 1), from(0, (1 << spinners) - 1, 0)),
            new Call("store", BAD, (x, a) -> x.store(a[0], a[1], a[2]), aSpinner, from(1, 5, 2), from(-1, 1, -1)),
            new Call("play", BAD - 100000, (x, a) -> x.play(a[0], a[1], a[2], a[3], a[4]), aTeller, aTale, from(1, sentences, 1), from(0, 9, 5), zeroOrOne),
            new Call("rests", BAD, (x, a) -> x.rests(a[0], a[1], a[2]), aTeller, aTale, zeroOrOne),
            new Call("coat", BAD, (x, a) -> x.coat(a[0], a[1], a[2], a[3], a[4]), aSpinner, sheet, lane, any(0), from(-1, 7, 0)),
            new Call("read", BAD, (x, a) -> x.read(a[0], a[1], a[2], a[3], a[4]), sheet, lane, any(0), from(1, 16, 4), from(-1, 7, 0)),
            new Call("untangle", BAD, (x, a) -> x.untangle(a[0], a[1], a[2], a[3], a[4]), sheet, lane, any(0), from(1, 16, 4), zeroOrOne),
            new Call("tangle", BAD, (x, a) -> x.tangle(a[0], a[1], a[2], a[3], a[4]), aTale, unlike, sheet, lane, any(0)),
            new Call("passed", BAD, (x, a) -> x.passed(a[0], a[1], a[2], a[3], a[4], a[5], a[6]),
                aTale, from(1, 3, 2), sheet, lane, any(0), from(1, 9, 4), from(-1, 1, -1)),
            new Call("sheet", BAD, (x, a) -> x.sheet(a[0], a[1], a[2]), sheet, lane, from(LOW, 24, 5)),
            new Call("drop", BAD, (x, a) -> x.drop(a[0]), sheet),
            new Call("item", BAD, (x, a) -> x.item(a[0], a[1], a[2], 5), sheet, lane, any(0)),
            new Call("copy", BAD, (x, a) -> x.copy(a[0], a[1], a[2], a[3], a[4]), sheet, any(0), sheet, any(0), any(1)));
    }

    private static void edges(Made made, List<Call> calls) {
        for (Call call : calls) for (int place = 0; place < call.numbers.length; place++) edgesOf(made, call, place);
    }

    private static void edgesOf(Made made, Call call, int place) {
        Number number = call.numbers[place];
        for (long v : new long[] {number.least - 1L, number.most + 1L, LOW, HIGH}) {
            if (v < LOW || v > HIGH || number.takes(v)) continue;
            int[] a = call.usual();
            a[place] = (int) v;
            refused(call.name, made, x -> { }, call.face, a, call.refusedBy);
        }
        for (int v : new int[] {number.least, number.most}) {
            if (number.least > number.most || !call.takesAllBut(place)) continue;
            int[] a = call.usual();
            a[place] = v;
            due(call.name + " " + Arrays.toString(a) + " is refused as BAD", call.face.answer(made.anew(), a) == call.refusedBy, false);
        }
    }

    // ---- two refusals at once: the one that the call names first

    private static void ranks(String name, Made made, Face face, int[] usual, Fault... faults) {
        for (int f = 0; f < faults.length; f++) {
            Fault first = faults[f];
            refused(name, made, first.ahead, face, with(usual, first), first.answer);
            for (int l = f + 1; l < faults.length; l++) {
                Fault later = faults[l];
                if (first.place >= 0 && first.place == later.place) continue;
                Ahead both = x -> {
                    later.ahead.run(x);
                    first.ahead.run(x);
                };
                refused(name + ", refused twice,", made, both, face, with(with(usual, later), first), first.answer);
            }
        }
    }

    private static int[] with(int[] usual, Fault fault) {
        int[] a = usual.clone();
        if (fault.place >= 0) a[fault.place] = fault.value;
        return a;
    }

    private static Ahead item(int i, int v) {
        return x -> x.item(0, 0, i, v);
    }

    private static void ranksOfTalesAndPeople() {
        ranks("type", RefusalTests::full, (x, a) -> x.type(a[1] == 0 ? EIGHT_DIGITS : EIGHT_DIGITS & ~0xffL | a[1], a[0]), new int[] {8, 0},
            Fault.of(BAD, 0, 0), Fault.of(BAD, 0, 9), Fault.of(BAD, 1, 31), Fault.of(BAD, 1, 127), Fault.of(BAD, 1, 255),
            Fault.behind(FULL, x -> {
                x.type(EIGHT_DIGITS, 8);
                x.type(EIGHT_DIGITS, 8);
            }));
        ranks("change", RefusalTests::full, (x, a) -> x.change(a[0], a[1], a[2]), new int[] {7, 0, 5},
            Fault.of(BAD, 0, -1), Fault.of(BAD, 0, 8), Fault.of(BAD, 1, -1), Fault.of(BAD, 1, 3), Fault.of(BAD, 2, -1), Fault.of(BAD, 2, 10),
            Fault.of(NOT, 2, 0), Fault.of(NOT, 1, 2));
        ranks("teller", RefusalTests::full, (x, a) -> x.teller(a[0]), new int[] {0}, Fault.of(BAD, 0, -1), Fault.of(BAD, 0, 4), Fault.of(FULL, 0, 0));
        ranks("spinner", RefusalTests::full, (x, a) -> x.spinner(), new int[0], Fault.behind(FULL, x -> { }));
        ranks("use", RefusalTests::full, (x, a) -> x.use(a[0], a[1], a[2]), new int[] {3, 3, 3},
            Fault.of(BAD, 0, -1), Fault.of(BAD, 0, 4), Fault.of(BAD, 1, -1), Fault.of(BAD, 1, 4), Fault.of(BAD, 2, 0), Fault.of(BAD, 2, 1000),
            Fault.of(NOT, 2, 3), Fault.of(NOT, 2, 999), Fault.of(NOT, 1, 0), Fault.of(NOT, 1, 2));
        Ahead ended = x -> x.evening(2, 7, 9, 0);
        for (int what = 4; what < 7; what++) {
            ranks("count", RefusalTests::full, (x, a) -> x.count(a[0]), new int[] {what}, Fault.of(BAD, 0, 7), Fault.behind(NONE, ended));
        }
        ranks("restore", RefusalTests::nothing, (x, a) -> x.restore(), new int[0], Fault.behind(NONE, x -> { }));
        Made noTale = () -> {
            SpunTales x = nothing();
            x.spinner();
            return x;
        };
        ranks("store", noTale, (x, a) -> x.store(a[0], a[1], a[2]), new int[] {0, 2, -1},
            Fault.of(BAD, 0, -1), Fault.of(BAD, 0, 1), Fault.of(BAD, 1, 0), Fault.of(BAD, 1, 6), Fault.of(BAD, 2, -2), Fault.of(BAD, 2, 5),
            Fault.of(NONE, 2, 0), Fault.of(NONE, 1, 1), Fault.of(NONE, 1, 5));
    }

    private static void ranksOfRows() {
        ranks("coat", RefusalTests::full, (x, a) -> x.coat(a[0], a[1], a[2], a[3], a[4]), new int[] {0, 0, 0, 0, 0},
            Fault.of(BAD, 0, -1), Fault.of(BAD, 0, 4), Fault.of(BAD, 1, -1), Fault.of(BAD, 1, 4), Fault.of(BAD, 2, -1), Fault.of(BAD, 2, 3),
            Fault.of(BAD, 4, -2), Fault.of(BAD, 4, 8), Fault.of(NULL, 1, 3), Fault.of(CAST, 2, 2), Fault.of(CAST, 1, 1),
            Fault.of(INDEX, 3, -1), Fault.of(INDEX, 3, 3), Fault.of(INDEX, 3, LOW), Fault.of(INDEX, 3, HIGH),
            Fault.behind(NOT, item(0, 100)), Fault.behind(NOT, item(3, -1)), Fault.behind(NONE, item(3, 99)), Fault.of(NONE, 4, 7));
        ranks("read", RefusalTests::full, (x, a) -> x.read(a[0], a[1], a[2], a[3], a[4]), new int[] {0, 0, 0, 4, 0},
            Fault.of(BAD, 0, -1), Fault.of(BAD, 0, 4), Fault.of(BAD, 1, -1), Fault.of(BAD, 1, 3), Fault.of(BAD, 3, 0), Fault.of(BAD, 3, 17),
            Fault.of(BAD, 4, -2), Fault.of(BAD, 4, 8), Fault.of(NULL, 0, 3), Fault.of(CAST, 1, 1), Fault.of(CAST, 0, 2),
            Fault.of(INDEX, 2, -1), Fault.of(INDEX, 2, 3), Fault.of(INDEX, 2, LOW), Fault.of(INDEX, 2, HIGH), Fault.of(INDEX, 3, 7), Fault.of(INDEX, 3, 16),
            Fault.behind(NOT, item(0, 4)), Fault.behind(NOT, item(3, -1)), Fault.of(NONE, 4, 7), Fault.of(NONE, 4, 0));
        ranks("untangle", RefusalTests::full, (x, a) -> x.untangle(a[0], a[1], a[2], a[3], a[4]), new int[] {0, 0, 0, 4, 1},
            Fault.of(BAD, 0, -1), Fault.of(BAD, 0, 4), Fault.of(BAD, 1, -1), Fault.of(BAD, 1, 3), Fault.of(BAD, 3, 0), Fault.of(BAD, 3, 17),
            Fault.of(BAD, 4, -1), Fault.of(BAD, 4, 2), Fault.of(NULL, 0, 3), Fault.of(CAST, 1, 1), Fault.of(CAST, 0, 2),
            Fault.of(INDEX, 2, -1), Fault.of(INDEX, 2, 3), Fault.of(INDEX, 2, LOW), Fault.of(INDEX, 2, HIGH), Fault.of(INDEX, 3, 7), Fault.of(INDEX, 3, 16),
            Fault.behind(NOT, item(0, 10)), Fault.behind(NOT, item(3, -1)), Fault.of(NONE, 4, 1));
        ranks("passed", RefusalTests::full, (x, a) -> x.passed(a[0], a[1], a[2], a[3], a[4], a[5], a[6]), new int[] {5, 2, 0, 0, 0, 4, 0},
            Fault.of(BAD, 0, -1), Fault.of(BAD, 0, 8), Fault.of(BAD, 1, 0), Fault.of(BAD, 1, 4), Fault.of(BAD, 2, -1), Fault.of(BAD, 2, 4),
            Fault.of(BAD, 3, -1), Fault.of(BAD, 3, 3), Fault.of(BAD, 5, 0), Fault.of(BAD, 5, 10), Fault.of(BAD, 6, -2), Fault.of(BAD, 6, 2), Fault.of(BAD, 6, 3),
            Fault.of(NULL, 2, 3), Fault.of(CAST, 3, 1), Fault.of(CAST, 2, 2),
            Fault.of(INDEX, 4, -1), Fault.of(INDEX, 4, 3), Fault.of(INDEX, 4, LOW), Fault.of(INDEX, 4, HIGH), Fault.of(INDEX, 5, 7), Fault.of(INDEX, 5, 9),
            Fault.behind(NOT, item(0, 10)), Fault.behind(NOT, item(3, -1)), Fault.of(NONE, 6, 1), Fault.of(NONE, 5, 5));
    }

    private static void ranksOfSheets() {
        ranks("tangle", RefusalTests::full, (x, a) -> x.tangle(a[0], a[1], a[2], a[3], a[4]), new int[] {2, 3, 0, 0, 0},
            Fault.of(BAD, 0, -1), Fault.of(BAD, 0, 8), Fault.of(BAD, 1, -1), Fault.of(BAD, 1, 8),
            Fault.of(BAD, 2, -1), Fault.of(BAD, 2, 4), Fault.of(BAD, 3, -1), Fault.of(BAD, 3, 3), Fault.of(NULL, 2, 3),
            Fault.of(CAST, 3, 2), Fault.of(CAST, 2, 1),
            Fault.of(INDEX, 4, -1), Fault.of(INDEX, 4, 2), Fault.of(INDEX, 4, LOW), Fault.of(INDEX, 4, HIGH), Fault.of(INDEX, 0, 1));
        ranks("tangle of one alike", RefusalTests::full, (x, a) -> x.tangle(a[0], a[1], a[2], a[3], a[4]), new int[] {2, 3, 0, 0, 0},
            Fault.of(BAD, 1, 2), Fault.of(NULL, 2, 3), Fault.of(CAST, 3, 1), Fault.of(INDEX, 4, 3));
        ranks("sheet", RefusalTests::full, (x, a) -> x.sheet(a[0], a[1], a[2]), new int[] {0, 0, 6},
            Fault.of(BAD, 0, -1), Fault.of(BAD, 0, 4), Fault.of(BAD, 1, -1), Fault.of(BAD, 1, 3), Fault.of(BAD, 2, 25), Fault.of(BAD, 2, HIGH),
            Fault.of(SIZE, 2, -1), Fault.of(SIZE, 2, LOW));
        ranks("drop", RefusalTests::full, (x, a) -> x.drop(a[0]), new int[] {0}, Fault.of(BAD, 0, -1), Fault.of(BAD, 0, 4), Fault.of(NULL, 0, 3));
        ranks("item", RefusalTests::full, (x, a) -> x.item(a[0], a[1], a[2], 7), new int[] {0, 0, 0},
            Fault.of(BAD, 0, -1), Fault.of(BAD, 0, 4), Fault.of(BAD, 1, -1), Fault.of(BAD, 1, 3), Fault.of(NULL, 0, 3),
            Fault.of(CAST, 1, 2), Fault.of(CAST, 0, 1),
            Fault.of(INDEX, 2, -1), Fault.of(INDEX, 2, 6), Fault.of(INDEX, 2, LOW), Fault.of(INDEX, 2, HIGH));
        Made twoOfBytes = () -> {
            SpunTales x = full();
            x.sheet(1, 0, 5);
            return x;
        };
        ranks("copy", twoOfBytes, (x, a) -> x.copy(a[0], a[1], a[2], a[3], a[4]), new int[] {0, 0, 1, 0, 5},
            Fault.of(BAD, 0, -1), Fault.of(BAD, 0, 4), Fault.of(BAD, 2, -1), Fault.of(BAD, 2, 4), Fault.of(NULL, 0, 3), Fault.of(NULL, 2, 3),
            Fault.of(CAST, 0, 2), Fault.of(INDEX, 1, -1), Fault.of(INDEX, 1, 2), Fault.of(INDEX, 1, LOW), Fault.of(INDEX, 1, HIGH),
            Fault.of(INDEX, 3, -1), Fault.of(INDEX, 3, 1), Fault.of(INDEX, 3, LOW), Fault.of(INDEX, 3, HIGH),
            Fault.of(INDEX, 4, -1), Fault.of(INDEX, 4, 6), Fault.of(INDEX, 4, LOW), Fault.of(INDEX, 4, HIGH));
        ranks("copy to another lane", twoOfBytes, (x, a) -> x.copy(a[0], a[1], a[2], a[3], a[4]), new int[] {0, 0, 1, 0, 5},
            Fault.of(BAD, 0, 4), Fault.of(NULL, 0, 3), Fault.of(CAST, 2, 2), Fault.of(INDEX, 1, 2), Fault.of(INDEX, 3, 1), Fault.of(INDEX, 4, -1));
    }

    // ---- a refused tale changes nothing but the tape, which is empty then

    private static void refusedTales() {
        String[] texts = {"", "   ", "x", " 12-", "1234567890", "5", "123456789", " 1 2 "};
        int[] want = {-20, -23, -20, -23, -29, FULL, FULL, FULL};
        for (int t = 0; t < texts.length; t++) {
            SpunTales x = fullButTheTape();
            for (char c : texts[t].toCharArray()) x.type(c, 1);
            due("tale() of '" + texts[t] + "'", x.tale(), want[t]);
            due("tale() of '" + texts[t] + "': nothing else is changed", all(x).equals(all(fullButTheTape())), true);
        }
    }

    // ---- what only tells changes nothing, either

    private static void telling() {
        List<String> changing = List.of("type", "change", "teller", "memory", "use", "evening", "tangle", "sheet", "drop", "item", "copy");
        int asked = 0;
        for (Call call : calls(8, 4, 4, 2, 2)) {
            if (changing.contains(call.name)) continue;
            SpunTales x = full();
            due(call.name + " is refused", call.face.answer(x, call.usual()) == call.refusedBy, false);
            due(call.name + ": nothing is changed", all(x).equals(all(full())), true);
            asked++;
        }
        due("calls that only tell", asked, 12);
    }

    public static void main(String[] args) {
        edges(RefusalTests::nothing, calls(0, 0, 0, 0, 0));
        edges(RefusalTests::one, calls(1, 1, 1, 0, 1));
        edges(RefusalTests::full, calls(8, 4, 4, 2, 2));
        ranksOfTalesAndPeople();
        ranksOfRows();
        ranksOfSheets();
        refusedTales();
        telling();
        System.out.println(wrong == 0 ? held + " refusals are as told" : wrong + " refusals are not as told");
        if (wrong != 0) System.exit(1);
    }
}

/**
 * Each sentence of the document that names an edge: the last that is taken and the first that is not, nothing, one and
 * full. What a call refuses for a number that is BAD stands in RefusalTests.
 */
public final class EdgeTests {
    private static final int BAD = -1, NOT = -2, FULL = -3, NONE = -4, NULL = -11, CAST = -12, INDEX = -13, SIZE = -14;
    private static final int LOW = Integer.MIN_VALUE, HIGH = Integer.MAX_VALUE;
    private static final int TRUE = 0, DULL = 1, GRAND = 2, TURNED = 3;
    private static final int CALLS = 512, MOST_EVENINGS = 9999;
    private static int wrong = 0;
    private static int held = 0;

    private static void due(String what, int got, int want) {
        held++;
        if (got != want) {
            wrong++;
            System.out.println(what + ": " + got + ", due is " + want);
        }
    }

    private static int tale(SpunTales x, String text) {
        for (char c : text.toCharArray()) x.type(c, 1);
        return x.tale();
    }

    private static int[] kinds(int... kinds) {
        return kinds;
    }

    private static SpunTales hearth(int[] kinds, int spinners, String... tales) {
        SpunTales x = new SpunTales();
        for (int kind : kinds) x.teller(kind);
        for (int s = 0; s < spinners; s++) x.spinner();
        for (String text : tales) tale(x, text);
        return x;
    }

    /** A hearth of one TRUE teller, one spinner. */
    private static SpunTales plain(String... tales) {
        return hearth(kinds(TRUE), 1, tales);
    }

    private static void fill(SpunTales x, int sheet, int lane, int... items) {
        x.sheet(sheet, lane, items.length);
        for (int i = 0; i < items.length; i++) x.item(sheet, lane, i, items[i]);
    }

    private static void toldDue(String what, SpunTales x, int tale, String text) {
        due(what + ": how many", x.told(tale, -1), text.length());
        for (int i = 0; i < text.length(); i++) due(what + ": sentence " + i, x.told(tale, i), text.charAt(i) - '0');
    }

    private static void yardsDue(String what, SpunTales x, int spinner, int... want) {
        for (int sort = 0; sort < 4; sort++) due(what + ": yards of sort " + sort, x.yards(spinner, sort), want[sort]);
    }

    /** What a sheet holds from an item on, seen by tale 0, which is of one sentence, and teller 0, who is TRUE. */
    private static void itemsDue(String what, SpunTales x, int sheet, int lane, int from, int... want) {
        for (int i = 0; i < want.length; i++) {
            x.change(0, 0, want[i]);
            due(what + ": item " + (from + i) + " is " + want[i], x.passed(0, 1, sheet, lane, from + i, 1, -1) > 0 ? 1 : 0, 1);
        }
    }

    // ---- Terms

    private static void calls() {
        SpunTales x = plain("9");
        for (int made = 4; made < CALLS - 1; made++) x.evening(0, 0, 1, 0);
        due("the 512th call", x.count(3), CALLS - 5);
    }

    private static void objectsHaveNothingInCommon() {
        SpunTales x = plain("9");
        x.sheet(0, 0, 1);
        x.type('1', 1);
        x.memory(1);
        x.image();
        SpunTales y = new SpunTales();
        for (int what = 0; what < 4; what++) due("another object: count(" + what + ")", y.count(what), 0);
        due("another object's sheet", y.drop(0), NULL);
        due("another object's tape", y.type('1', 1), 1);
        due("another object's memory", y.memory(1), 20);
        due("another object's image", y.restore(), NONE);
    }

    private static void talesAreEight() {
        SpunTales x = new SpunTales();
        due("no tale", x.count(0), 0);
        for (int t = 0; t < 8; t++) due("tale " + t, tale(x, "" + t), t);
        due("a ninth tale", tale(x, "8"), FULL);
        due("and a tenth", tale(x, "9"), FULL);
        due("there are eight", x.count(0), 8);
        for (int t = 0; t < 8; t++) toldDue("tale " + t, x, t, "" + t);
        due("told of a ninth", x.told(8, -1), BAD);
    }

    private static void sentencesAreOneToNine() {
        SpunTales x = new SpunTales();
        due("no sentence", tale(x, ""), -20);
        due("one", tale(x, "7"), 0);
        due("nine", tale(x, "098765432"), 1);
        due("ten", tale(x, "0987654321"), -29);
        toldDue("one", x, 0, "7");
        toldDue("nine", x, 1, "098765432");
        due("no tenth", x.told(1, 9), BAD);
        due("no second of one", x.told(0, 1), BAD);
    }

    private static void sortsOfTensions() {
        int[] sorts = {0, 0, 0, 1, 1, 1, 2, 2, 2, 3};
        for (int tension = 0; tension <= 9; tension++) {
            SpunTales x = plain("" + tension);
            x.evening(0, 0, 1, 1);
            int[] want = new int[4];
            want[sorts[tension]] = 1;
            yardsDue("a yard by tension " + tension, x, 0, want);
            x.evening(0, 0, 1, 1);
            want[Math.max(0, sorts[tension] - 1)]++;
            yardsDue("and one in mind", x, 0, want);
        }
    }

    private static void kindsOfTellers() {
        int[][] want = {{0, 1, 2, 3, 4, 5, 6, 7, 8, 9}, {0, 0, 1, 2, 3, 4, 5, 6, 7, 8}, {2, 3, 4, 5, 6, 7, 8, 9, 9, 9}, {0, 0, 1, 2, 3, 4, 5, 6, 7, 8}};
        for (int tension = 0; tension <= 9; tension++) {
            SpunTales x = hearth(kinds(TRUE, DULL, GRAND, TURNED), 0, "" + tension);
            for (int kind = 0; kind < 4; kind++) due("kind " + kind + " tells " + tension, x.tells(kind, 0, 0), want[kind][tension]);
        }
        SpunTales x = hearth(kinds(TURNED), 0, "123456789", "50");
        for (int i = 0; i < 9; i++) due("nine sentences turned: " + i, x.tells(0, 0, i), 8 - i);
        due("two turned: 0", x.tells(0, 1, 0), 0);
        due("two turned: 1", x.tells(0, 1, 1), 4);
    }

    private static void turnedAndBrokenOff() {
        SpunTales x = hearth(kinds(TURNED), 1, "0369");
        due("of all sentences the last is told first", x.evening(0, 0, 1, 1), 1);
        yardsDue("9 as by a DULL one", x, 0, 0, 0, 1, 0);
        due("it goes on", x.evening(0, 0, 1, 1), 1);
        yardsDue("6 as by a DULL one", x, 0, 0, 1, 1, 0);
        due("up to its end", x.evening(0, 0, 9, 1), 2);
        yardsDue("3 and 0 as by a DULL one", x, 0, 2, 1, 1, 0);
    }

    /** In mind in so many evenings behind the one in which it was told to its end, and in no other. */
    private static void mindLastsSoLong(int memory) {
        SpunTales x = plain("9", "0");
        if (memory != 20) x.memory(memory);
        due("nothing is in mind", x.mind(0), 0);
        x.evening(0, 0, 1, 1);
        for (int evening = 2; evening <= memory + 3; evening++) {
            due("memory " + memory + ", ahead of evening " + evening, x.mind(0), evening <= memory + 1 ? 1 : 0);
            x.evening(0, 1, 1, 0);
        }
        for (int behind = memory; behind <= memory + 1; behind++) {
            SpunTales y = plain("9", "0");
            y.memory(memory);
            y.evening(0, 0, 1, 1);
            for (int evening = 1; evening < behind; evening++) y.evening(0, 1, 1, 0);
            y.evening(0, 0, 1, 1);
            yardsDue("memory " + memory + ", told again " + behind + " behind", y, 0, 0, 0, behind == memory ? 1 : 0, behind == memory ? 1 : 2);
        }
    }

    private static void memoryCountsAsItIsNow() {
        SpunTales x = plain("9", "0");
        x.evening(0, 0, 1, 1);
        x.evening(0, 1, 1, 0);
        due("in mind by 20", x.mind(0), 1);
        due("20 at first", x.memory(1), 20);
        due("not by 1", x.mind(0), 0);
        due("what it was", x.memory(2), 1);
        due("by 2 again", x.mind(0), 1);
        due("what it was", x.memory(99), 2);
        due("what it was", x.memory(99), 99);
    }

    private static void mindIsOfEachEvening() {
        SpunTales x = plain("99", "0");
        x.memory(1);
        x.evening(0, 0, 9, 1);
        due("begun again while in mind", x.evening(0, 0, 1, 1), 1);
        yardsDue("of one sort less", x, 0, 0, 0, 1, 2);
        due("nothing is in mind then", x.mind(0), 0);
        due("it goes on, not in mind any more", x.evening(0, 0, 1, 1), 1);
        yardsDue("as it is told", x, 0, 0, 0, 1, 3);
        due("it was told to its end again", x.mind(0), 1);
    }

    private static void mindBeginsAnewWithEachEnd() {
        SpunTales x = plain("9", "0");
        x.memory(2);
        x.evening(0, 0, 1, 1);
        x.evening(0, 1, 1, 0);
        x.evening(0, 0, 1, 1);
        x.evening(0, 1, 1, 0);
        due("two behind the second time", x.mind(0), 1);
        x.evening(0, 1, 1, 0);
        due("three behind it", x.mind(0), 0);
    }

    private static void allInMind() {
        SpunTales x = hearth(kinds(TRUE), 4, "0", "1", "2", "3", "4", "5", "6", "7");
        for (int t = 0; t < 8; t++) x.evening(0, t, 9, 8);
        due("eight tales in mind", x.mind(3), 255);
        due("nobody else's", x.mind(2), 0);
    }

    // ---- 1 tales, tellers, spinners

    private static void typedBytes() {
        for (int place = 0; place < 8; place++) {
            long others = 0x3030303030303030L & ~(255L << 8 * place);
            for (int sign : new int[] {0, 31, 127, 128, 160, 255}) {
                due("byte " + sign + " at " + place, new SpunTales().type(others | (long) sign << 8 * place, 8), BAD);
                due("byte " + sign + " above the lowest " + place, new SpunTales().type(others | (long) sign << 8 * place, place), place == 0 ? BAD : place);
            }
            for (int sign : new int[] {32, 33, 125, 126}) due("byte " + sign + " at " + place, new SpunTales().type(others | (long) sign << 8 * place, 8), 8);
        }
        for (int n = 1; n <= 8; n++) {
            due("the least long, " + n, new SpunTales().type(Long.MIN_VALUE, n), BAD);
            due("the greatest long, " + n, new SpunTales().type(Long.MAX_VALUE, n), BAD);
            due("the least long with digits, " + n, new SpunTales().type(Long.MIN_VALUE | 0x31313131313131L, n), n == 8 ? BAD : n);
            due("the greatest long less, " + n, new SpunTales().type(0x7E7E7E7E7E7E7E7EL, n), n);
        }
    }

    private static void typedOrder() {
        for (int n = 1; n <= 8; n++) {
            SpunTales x = new SpunTales();
            due("of " + n + " bytes", x.type(0x3132333435363738L, n), n);
            x.tale();
            toldDue("the " + n + " lowest bytes, the highest first", x, 0, "12345678".substring(8 - n));
        }
        SpunTales x = new SpunTales();
        x.type(0x3132L, 2);
        due("behind them", x.type(0x333435L, 3), 5);
        x.tale();
        toldDue("what comes later stands behind", x, 0, "12345");
    }

    private static void tapeOf24() {
        SpunTales x = new SpunTales();
        for (int n = 1; n <= 24; n++) due("one by one: " + n, x.type(n <= 15 ? ' ' : '0' + n - 15, 1), n);
        due("a 25th", x.type('0', 1), FULL);
        due("8 more", x.type(0x3030303030303030L, 8), FULL);
        due("24 are a tale", x.tale(), 0);
        toldDue("24 bytes", x, 0, "123456789");
        for (int n = 1; n <= 3; n++) due("by 8: " + n, x.type(0x2020202020202020L, 8), 8 * n);
        due("full by 8", x.type(' ', 1), FULL);
        due("emptied", x.tale(), -44);
        x.type(0x2020202020202020L, 8);
        x.type(0x2020202020202020L, 8);
        due("17", x.type(' ', 1), 17);
        due("25 are too many, so none comes", x.type(0x3131313131313131L, 8), FULL);
        due("24 are not", x.type(0x31313131313131L, 7), 24);
        due("it has 7 digits", x.tale(), 1);
        due("it has 7 digits", x.told(1, -1), 7);
    }

    private static void faultsAndTheirPlaces() {
        String[] texts = {"", " ", "       ", "/", ":", "5/", "5:", "5 x", "  -1", "1.5", "~", "123456789~", "123456789 ~", "1234567890", "1 2 3 4 5 6 7 8 9 0",
            "123456789 0", "  1234567890", "x123456789", "12x34x", "1234567890x", "123456789x0", "                        ", "              1234567890", "                       x"};
        int[] places = {0, 1, 7, 0, 0, 1, 1, 2, 2, 1, 0, 9, 10, 9, 18, 10, 11, 0, 2, 9, 9, 24, 23, 23};
        for (int i = 0; i < texts.length; i++) {
            SpunTales x = new SpunTales();
            due("the text '" + texts[i] + "'", tale(x, texts[i]), -20 - places[i]);
            due("no tale comes by it", x.count(0), 0);
            due("the tape is empty then", x.type('1', 1), 1);
            due("and a tale can come", x.tale(), 0);
        }
    }

    private static void blanksCountForNothing() {
        String[] texts = {"5", " 5", "5 ", "  5  ", "1 2", "1  2 ", "123456789 ", " 1 2 3 4 5 6 7 8 9    ", "               123456789", "123456789               "};
        for (String text : texts) {
            SpunTales x = new SpunTales();
            due("the text '" + text + "'", tale(x, text), 0);
            toldDue("the text '" + text + "'", x, 0, text.replace(" ", ""));
        }
    }

    private static void fullOfTales() {
        SpunTales x = plain("0", "1", "2", "3", "4", "5", "6", "7");
        for (String text : new String[] {"", "x", "12x", "1234567890"}) {
            due("a fault is named ahead of FULL: '" + text + "'", tale(x, text), -20 - Math.min(9, text.replace("x", "").length()));
            due("the tape is empty then", x.type(' ', 1), 1);
            x.tale();
        }
        due("FULL", tale(x, "8"), FULL);
        due("the tape is empty, too", x.type('5', 1), 1);
        due("FULL again", x.tale(), FULL);
        due("the tape is empty, too", x.tale(), -20);
        for (int t = 0; t < 8; t++) toldDue("as it was", x, t, "" + t);
    }

    private static void changedSentences() {
        SpunTales x = plain("5", "123456789");
        due("to the least", x.change(0, 0, 0), 5);
        due("to the most", x.change(0, 0, 9), 0);
        due("to what it is", x.change(0, 0, 9), 9);
        due("the first", x.change(1, 0, 7), 1);
        due("the last", x.change(1, 8, 7), 9);
        toldDue("no other is changed", x, 1, "723456787");
        toldDue("no other is changed", x, 0, "9");
    }

    private static void changeWhileBrokenOff() {
        SpunTales x = hearth(kinds(TRUE, DULL), 1, "123", "456");
        due("not begun", x.change(0, 0, 2), 1);
        x.evening(0, 0, 1, 0);
        for (int i = 0; i < 3; i++) due("broken off: sentence " + i, x.change(0, i, 9), NOT);
        due("to what it is", x.change(0, 0, 2), NOT);
        toldDue("as it was", x, 0, "223");
        due("another tale", x.change(1, 0, 3), 4);
        x.evening(0, 0, 1, 0);
        due("broken off again", x.change(0, 2, 9), NOT);
        x.evening(0, 0, 1, 0);
        due("told to its end", x.change(0, 2, 9), 3);
        x.evening(0, 0, 1, 0);
        x.evening(1, 0, 1, 0);
        due("broken off by another teller", x.change(0, 2, 3), NOT);
        x.evening(1, 1, 3, 0);
        due("not any more", x.change(0, 2, 3), 9);
        due("nor the one that was told", x.change(1, 2, 3), 6);
    }

    private static void tellersAndSpinnersAreFour() {
        SpunTales x = new SpunTales();
        due("no teller", x.count(1), 0);
        due("no spinner", x.count(2), 0);
        tale(x, "5");
        due("nobody tells", x.tells(0, 0, 0), BAD);
        int[] kinds = {TURNED, TRUE, GRAND, TRUE};
        int[] want = {4, 5, 7, 5};
        for (int t = 0; t < 4; t++) {
            due("a teller", x.teller(kinds[t]), t);
            due("a spinner", x.spinner(), t);
            due("so many tellers", x.count(1), t + 1);
            due("so many spinners", x.count(2), t + 1);
            yardsDue("a new spinner", x, t, 0, 0, 0, 0);
            due("a new spinner's mind", x.mind(t), 0);
            due("no one behind", x.mind(t + 1), BAD);
        }
        for (int kind = 0; kind < 4; kind++) due("a fifth teller", x.teller(kind), FULL);
        due("a fifth spinner", x.spinner(), FULL);
        for (int t = 0; t < 4; t++) due("of what kind", x.tells(t, 0, 0), want[t]);
        due("so many tellers", x.count(1), 4);
        due("so many spinners", x.count(2), 4);
    }

    private static void yardsAreUsed() {
        SpunTales x = hearth(kinds(TRUE), 2, "000000000");
        due("of none", x.use(0, 0, 1), NOT);
        for (int e = 0; e < 112; e++) x.evening(0, 0, 9, 1);
        due("1008 yards", x.yards(0, 0), 1008);
        due("1000 at once", x.use(0, 0, 1000), BAD);
        due("999 at once", x.use(0, 0, 999), 9);
        due("one more than there are", x.use(0, 0, 10), NOT);
        due("of another sort", x.use(0, 1, 1), NOT);
        due("of another spinner", x.use(1, 0, 1), NOT);
        due("one", x.use(0, 0, 1), 8);
        due("all", x.use(0, 0, 8), 0);
        due("none is left", x.use(0, 0, 1), NOT);
        due("none is left", x.yards(0, 0), 0);
        for (int sort = 0; sort < 4; sort++) {
            SpunTales z = plain("" + 3 * sort);
            z.evening(0, 0, 1, 1);
            for (int other = 0; other < 4; other++) due("of sort " + other + ", of " + sort + " there is one", z.use(0, other, 1), other == sort ? 0 : NOT);
        }
    }

    private static void countOfWhatIsBrokenOff() {
        SpunTales x = hearth(kinds(TRUE, TRUE, TRUE, TRUE), 0, "0", "1", "2", "3", "4", "5", "6", "123456789");
        for (int what = 4; what <= 6; what++) due("at first none is: " + what, x.count(what), NONE);
        for (int told = 1; told <= 8; told++) {
            x.evening(3, 7, 1, 0);
            due("the tale", x.count(4), 7);
            due("its teller", x.count(5), 3);
            due("how many sentences", x.count(6), told);
            due("evenings so far", x.count(3), told);
        }
        x.evening(3, 7, 1, 0);
        for (int what = 4; what <= 6; what++) due("told to its end: " + what, x.count(what), NONE);
        x.evening(0, 7, 8, 0);
        due("begun anew", x.count(6), 8);
        x.evening(0, 0, 1, 0);
        for (int what = 4; what <= 6; what++) due("not any more: " + what, x.count(what), NONE);
        due("evenings so far", x.count(3), 11);
    }

    // ---- 2 evenings

    private static void eveningUpToTheEnd() {
        for (int length = 1; length <= 9; length++) {
            for (int n = 1; n <= 9; n++) {
                SpunTales x = plain("999999999".substring(0, length));
                due(n + " of " + length, x.evening(0, 0, n, 1), Math.min(n, length));
                due(n + " of " + length + ": broken off", x.count(6), n < length ? n : NONE);
                due(n + " of " + length + ": mind", x.mind(0), n < length ? 0 : 1);
                due(n + " of " + length + ": lace", x.yards(0, 3), Math.min(n, length));
                due(n + " of " + length + ": goes on, or begins", x.evening(0, 0, 9, 1), n < length ? length - n : length);
                due(n + " of " + length + ": nothing is broken off", x.count(4), NONE);
            }
        }
    }

    private static void setsOfSpinners() {
        SpunTales nobody = hearth(kinds(TRUE), 0, "99");
        due("there is no spinner", nobody.evening(0, 0, 1, 0), 0);
        due("it is an evening", nobody.count(3), 1);
        due("of a spinner there isn't", nobody.evening(0, 0, 1, 1), BAD);
        for (int spinners = 1; spinners <= 4; spinners++) {
            for (int set = 0; set < 1 << spinners; set++) {
                SpunTales x = hearth(kinds(TRUE), spinners, "99");
                due("the set " + set, x.evening(0, 0, 9, set), 2 * Integer.bitCount(set));
                for (int s = 0; s < spinners; s++) {
                    due("yards of spinner " + s, x.yards(s, 3), (set >> s & 1) * 2);
                    due("mind of spinner " + s, x.mind(s), set >> s & 1);
                }
            }
            SpunTales x = hearth(kinds(TRUE), spinners, "99");
            for (int set : new int[] {1 << spinners, 1 << spinners | 1, 16, 31, 32, 1 << 30, LOW, LOW | 1, -1, -2, HIGH}) {
                due("of " + spinners + " the set " + set, x.evening(0, 0, 1, set), BAD);
            }
            due("no evening was", x.count(3), 0);
        }
    }

    private static void goesOnOrBegins() {
        SpunTales x = hearth(kinds(TRUE, TRUE), 1, "369", "369");
        x.evening(0, 0, 1, 1);
        due("another teller begins it", x.evening(1, 0, 9, 1), 3);
        due("the first teller's is not broken off any more", x.evening(0, 0, 9, 1), 3);
        x.evening(0, 0, 2, 1);
        due("another tale begins", x.evening(0, 1, 2, 1), 2);
        due("the first tale is not broken off any more", x.evening(0, 0, 2, 1), 2);
        due("it goes on", x.evening(0, 0, 9, 1), 1);
        due("told to its end it begins", x.evening(0, 0, 9, 1), 3);
        x.evening(0, 0, 1, 1);
        due("what is refused is no evening ahead", x.evening(0, 0, 10, 1), BAD);
        due("so it goes on", x.evening(0, 0, 9, 1), 2);
        x.evening(0, 0, 1, 1);
        due("an evening to nobody", x.evening(0, 0, 1, 0), 0);
        due("it went on in it", x.evening(0, 0, 9, 1), 1);
    }

    /** Who was told it to its end, by the sets of the evenings in which it was told, a sentence in each. */
    private static void endsHeard(int want, int... sets) {
        SpunTales x = hearth(kinds(TRUE), 4, "999999999".substring(0, sets.length));
        StringBuilder what = new StringBuilder("sets");
        for (int set : sets) {
            x.evening(0, 0, 1, set);
            what.append(' ').append(set);
        }
        for (int s = 0; s < 4; s++) due(what + ": spinner " + s, x.mind(s), want >> s & 1);
    }

    private static void whoHearsTheEnd() {
        endsHeard(0, 0);
        endsHeard(15, 15);
        endsHeard(1, 1, 1);
        endsHeard(0, 1, 2);
        endsHeard(2, 3, 2);
        endsHeard(2, 2, 3);
        endsHeard(0, 15, 0);
        endsHeard(0, 0, 15);
        endsHeard(2, 15, 2, 15);
        endsHeard(0, 15, 0, 15);
        endsHeard(8, 15, 14, 13, 11, 15, 15, 9, 15, 15);
        SpunTales x = hearth(kinds(TRUE), 1, "99");
        x.evening(0, 0, 1, 1);
        x.spinner();
        x.evening(0, 0, 1, 3);
        due("who came while it was broken off", x.mind(1), 0);
        due("who was there", x.mind(0), 1);
        x.evening(0, 0, 1, 2);
        x.evening(0, 0, 1, 2);
        due("begun anew", x.mind(1), 1);
        SpunTales y = hearth(kinds(TRUE, TRUE), 1, "99");
        y.evening(0, 0, 1, 1);
        y.evening(1, 0, 1, 0);
        y.evening(1, 0, 1, 1);
        due("who heard it begun by another one alone", y.mind(0), 0);
    }

    private static void yardsOfAllWhoAreThere() {
        SpunTales x = hearth(kinds(TRUE), 2, "99", "0");
        x.evening(0, 0, 9, 1);
        due("by one who has it in mind and one who has not", x.evening(0, 0, 9, 3), 4);
        yardsDue("in mind", x, 0, 0, 0, 2, 2);
        yardsDue("not in mind", x, 1, 0, 0, 0, 2);
    }

    /** Behind the 512th call answers are free; that an object keeps to 9999 evenings can be seen there alone. */
    private static void eveningsAre9999() {
        SpunTales x = hearth(kinds(TRUE), 1, "99", "369");
        for (int e = 1; e < MOST_EVENINGS; e++) x.evening(0, 0, 9, 0);
        due("one evening is left", x.count(3), MOST_EVENINGS - 1);
        due("the last evening", x.evening(0, 1, 2, 1), 2);
        due("9999 have been", x.count(3), MOST_EVENINGS);
        due("one more", x.evening(0, 1, 2, 1), FULL);
        due("another tale", x.evening(0, 0, 2, 1), FULL);
        due("BAD is ahead of FULL", x.evening(1, 1, 1, 1), BAD);
        due("BAD is ahead of FULL", x.evening(0, 2, 1, 1), BAD);
        due("BAD is ahead of FULL", x.evening(0, 1, 0, 1), BAD);
        due("BAD is ahead of FULL", x.evening(0, 1, 10, 1), BAD);
        due("BAD is ahead of FULL", x.evening(0, 1, 1, 2), BAD);
        due("9999 have been", x.count(3), MOST_EVENINGS);
        due("it is broken off as it was", x.count(6), 2);
        due("and so its tale", x.count(4), 1);
        yardsDue("nothing was spun", x, 0, 0, 1, 1, 0);
        due("nothing is in mind", x.mind(0), 0);
    }

    // ---- 3 coats, stores, plays

    private static void storeDue(String what, SpunTales x, int sum, int... row) {
        due(what + ": sum", x.store(0, row.length, -1), sum);
        for (int i = 0; i < row.length; i++) due(what + ": tale " + i, x.store(0, row.length, i), row[i]);
        due(what + ": one too far", x.store(0, row.length, row.length), BAD);
    }

    private static void stores() {
        SpunTales none = hearth(kinds(TRUE), 1);
        for (int n = 1; n <= 5; n++) for (int i = -1; i < n; i++) due("no tale", none.store(0, n, i), NONE);
        SpunTales one = plain("9");
        storeDue("one tale, 1", one, 3, 0);
        storeDue("one tale, 5", one, 11, 0, 0, 0, 0, 0);
        SpunTales noTeller = hearth(kinds(), 1, "9");
        storeDue("it needs no teller", noTeller, 5, 0, 0);
        SpunTales eight = hearth(kinds(), 1, "0", "1", "2", "0", "1", "3", "6", "9");
        storeDue("the last of eight", eight, 3, 7);
        storeDue("eight, 5", eight, 11, 6, 7, 7, 7, 7);
        SpunTales most = hearth(kinds(), 1, "999999999", "999999999", "999999999", "999999999", "999999999", "999999999", "999999999", "999999999");
        storeDue("the most that can be", most, 135, 0, 1, 2, 3, 4);
        SpunTales coarse = hearth(kinds(), 1, "0", "111111111", "2");
        storeDue("the least that can be", coarse, 0, 0, 0, 0, 0, 0);
    }

    private static void storesAndMind() {
        SpunTales x = plain("9", "6", "0");
        x.memory(1);
        storeDue("by memory 1 it is new again in the third", x, 8, 0, 1, 0);
        x.memory(2);
        storeDue("by memory 2 it is not", x, 7, 0, 0, 0);
        x.memory(1);
        x.evening(0, 0, 9, 1);
        storeDue("in mind in the next evening", x, 2, 0);
        storeDue("not in the one behind", x, 5, 1, 0);
        x.evening(0, 2, 9, 0);
        storeDue("not in the next evening any more", x, 3, 0);
        SpunTales y = plain("999");
        y.evening(0, 0, 1, 1);
        storeDue("one that is broken off is told from its first sentence", y, 9, 0);
        due("and is broken off as it was", y.count(6), 1);
    }

    private static void playDue(SpunTales x, int teller, int j, int p, int tellers, int spinners) {
        due("play " + teller + ", j " + j + ", p " + p + ": the teller", x.play(teller, 0, j, p, 0), tellers);
        due("play " + teller + ", j " + j + ", p " + p + ": the spinner", x.play(teller, 0, j, p, 1), spinners);
    }

    private static void plays() {
        SpunTales x = hearth(kinds(TRUE, DULL, GRAND, TURNED), 0, "953");
        playDue(x, 0, 1, 0, 1, 2);
        playDue(x, 0, 3, 0, 3, 2);
        playDue(x, 0, 3, 3, 3, 2);
        playDue(x, 0, 3, 4, -1, 2);
        playDue(x, 0, 2, 4, 2, 2);
        playDue(x, 0, 2, 5, 2, 2);
        playDue(x, 0, 2, 6, -2, 2);
        playDue(x, 0, 1, 6, 1, 2);
        playDue(x, 0, 3, 9, -2, 2);
        playDue(x, 1, 1, 8, 1, 1);
        playDue(x, 1, 1, 9, -3, 0);
        playDue(x, 1, 3, 9, -3, 0);
        playDue(x, 2, 3, 5, 3, 3);
        playDue(x, 2, 3, 6, -1, 3);
        playDue(x, 3, 3, 0, 3, 0);
        playDue(x, 3, 1, 2, 1, -1);
        playDue(x, 3, 1, 3, -3, 0);
        SpunTales least = hearth(kinds(TRUE), 0, "000000000");
        playDue(least, 0, 9, 0, 9, -9);
        playDue(least, 0, 9, 1, -3, 0);
        playDue(least, 0, 1, 1, -3, 0);
        SpunTales most = hearth(kinds(TRUE), 0, "999999999");
        for (int p = 0; p <= 9; p++) playDue(most, 0, 9, p, 9, 18);
        due("behind more than all", most.play(0, 0, 10, 0, 0), -100001);
        due("behind none", most.play(0, 0, 0, 0, 0), -100001);
        SpunTales one = hearth(kinds(TRUE), 0, "4");
        playDue(one, 0, 1, 4, 1, 0);
        playDue(one, 0, 1, 5, -3, 0);
        due("behind more than one", one.play(0, 0, 2, 0, 0), -100001);
    }

    private static void restsDue(String text, int count, int first) {
        SpunTales x = hearth(kinds(TRUE), 0, text);
        due("rests of " + text, x.rests(0, 0, 0), count);
        due("the first of " + text, x.rests(0, 0, 1), first);
    }

    private static void rests() {
        restsDue("9", 10, 10);
        restsDue("0", 9, 11);
        restsDue("4", 10, 10);
        restsDue("999999999", 10, 90);
        restsDue("000000000", 81, 11);
        restsDue("90", 9, 11);
        restsDue("09", 10, 11);
        restsDue("30", 15, 11);
    }

    /** Some pair always rests (at the first place to which the spinner could stay, or with one who goes at once), so NONE is never due. */
    private static void someAlwaysRest() {
        for (int digits = 1, end = 10; digits <= 3; digits++, end *= 10) {
            for (int v = 0; v < end; v++) {
                SpunTales x = hearth(kinds(TRUE), 0, String.format("%0" + digits + "d", v));
                int first = x.rests(0, 0, 1);
                due("something rests of " + v, x.rests(0, 0, 0) >= 1 && first >= 10 && first <= 10 * digits + 9 ? 1 : 0, 1);
            }
        }
    }

    private static void imageOfNothing() {
        SpunTales x = new SpunTales();
        due("there is none", x.restore(), NONE);
        due("of nobody", x.image(), 1);
        for (String text : new String[] {"0", "1", "2", "3", "4", "5", "6", "77"}) tale(x, text);
        for (int t = 0; t < 4; t++) {
            x.teller(t);
            x.spinner();
        }
        x.memory(1);
        x.evening(0, 7, 1, 15);
        due("restored", x.restore(), 1);
        for (int what = 0; what < 4; what++) due("nobody: " + what, x.count(what), 0);
        for (int what = 4; what < 7; what++) due("nothing is broken off: " + what, x.count(what), NONE);
        due("memory", x.memory(20), 20);
        due("tales come from 0 on", tale(x, "9"), 0);
        due("tellers come from 0 on", x.teller(1), 0);
        due("spinners come from 0 on", x.spinner(), 0);
        yardsDue("a new one", x, 0, 0, 0, 0, 0);
        due("a new one's mind", x.mind(0), 0);
        due("a teller of its own kind", x.tells(0, 0, 0), 8);
        due("evenings from 1 on", x.evening(0, 0, 1, 1), 1);
        due("evenings from 1 on", x.count(3), 1);
    }

    private static void imageOfAll() {
        String[] texts = {"9", "8", "7", "6", "5", "4", "333333333", "222222222"};
        SpunTales x = hearth(kinds(TURNED, GRAND, DULL, TRUE), 4, texts);
        x.memory(99);
        x.evening(3, 0, 9, 8);
        x.evening(1, 6, 8, 12);
        x.image();
        for (int again = 0; again < 2; again++) {
            x.evening(1, 6, 1, 4);
            x.evening(0, 7, 3, 15);
            for (int t = 0; t < 8; t++) x.evening(3, t, 9, 15);
            for (int t = 0; t < 8; t++) for (int i = 0; i < x.told(t, -1); i++) x.change(t, i, 0);
            x.use(3, 3, 1);
            x.memory(1);
            due("restored", x.restore(), 1);
            int[] counts = {8, 4, 4, 2, 6, 1, 8};
            for (int what = 0; what < 7; what++) due("count " + what, x.count(what), counts[what]);
            for (int t = 0; t < 8; t++) toldDue("tale " + t, x, t, texts[t]);
            int[] told = {8, 9, 8, 9};
            for (int t = 0; t < 4; t++) due("teller " + t, x.tells(t, 0, 0), told[t]);
            yardsDue("the last spinner", x, 3, 0, 8, 0, 1);
            yardsDue("the one ahead", x, 2, 0, 8, 0, 0);
            yardsDue("the second spinner", x, 1, 0, 0, 0, 0);
            yardsDue("the first spinner", x, 0, 0, 0, 0, 0);
            for (int s = 0; s < 4; s++) due("mind of " + s, x.mind(s), s == 3 ? 1 : 0);
            due("memory", x.memory(99), 99);
        }
        due("it goes on", x.evening(1, 6, 9, 15), 4);
        due("who has heard all of it", x.mind(2), 64);
        due("who has not", x.mind(1), 0);
    }

    /** What was sought among more tales and tellers than there are now leaves nothing behind. */
    private static void soughtAgainBehindAnImage() {
        SpunTales x = plain("6");
        fill(x, 0, 0, 0, 0, 0, 1);
        fill(x, 1, 0, 9);
        fill(x, 2, 0, 0, 9);
        x.image();
        tale(x, "9");
        tale(x, "0");
        x.teller(GRAND);
        due("a coat", x.coat(0, 0, 0, 0, 0), 10);
        due("a store", x.store(0, 1, 0), 1);
        due("a row", x.read(0, 0, 0, 4, -1), 0);
        due("passed", x.passed(1, 2, 1, 0, 0, 1, -1), 4);
        due("untangled", x.untangle(2, 0, 0, 2, 1), 21);
        x.restore();
        due("no coat", x.coat(0, 0, 0, 0, 0), NONE);
        due("no coat", x.coat(0, 0, 0, 0, -1), NONE);
        due("another store", x.store(0, 1, 0), 0);
        due("not passed", x.passed(0, 2, 1, 0, 0, 1, -1), 0);
        due("nothing untangled", x.untangle(2, 0, 0, 2, 0), 0);
        x.change(0, 0, 0);
        due("a store of nothing", x.store(0, 2, -1), 0);
        tale(x, "9");
        due("a store of 9 and 0", x.store(0, 1, 0), 1);
        x.change(1, 0, 0);
        due("of like ones the first, whatever was sought ahead", x.store(0, 1, 0), 0);
        due("of like ones the first, whatever was sought ahead", x.store(0, 1, -1), 0);
    }

    private static void imagesLeaveSheetsAndTape() {
        SpunTales x = plain("5");
        x.type('1', 1);
        fill(x, 0, 0, 1, 2, 3);
        x.image();
        x.type('2', 1);
        x.item(0, 0, 1, 9);
        x.sheet(1, 2, 2);
        x.restore();
        itemsDue("as it is now", x, 0, 0, 0, 1, 9, 3);
        due("a new one stays", x.drop(1), 2);
        due("what was typed stays", x.type('3', 1), 3);
        due("and is a tale", x.tale(), 1);
        toldDue("and is a tale", x, 1, "123");
        x.drop(0);
        x.restore();
        due("a dropped one stays so", x.drop(0), NULL);
        due("the tape is empty as it is", x.type('3', 1), 1);
        due("a newer image", x.image(), 1);
        x.spinner();
        due("is the one", x.restore(), 1);
        due("is the one", x.count(2), 1);
    }

    // ---- 4 sheets

    private static void coatDue(String what, SpunTales x, int lane, int[] wanted, int... row) {
        fill(x, 0, lane, wanted);
        due(what + ": how many", x.coat(0, 0, lane, 0, -1), row.length);
        for (int k = 0; k < 8; k++) due(what + ": " + k, x.coat(0, 0, lane, 0, k), k < row.length ? row[k] : NONE);
    }

    private static void noCoat(String what, SpunTales x, int... wanted) {
        fill(x, 0, 0, wanted);
        for (int k = -1; k < 8; k++) due(what + ": " + k, x.coat(0, 0, 0, 0, k), NONE);
    }

    private static int[] wanted(int... wanted) {
        return wanted;
    }

    private static void coats() {
        SpunTales nothing = hearth(kinds(), 1);
        coatDue("nothing wanted, nothing there", nothing, 0, wanted(0, 0, 0, 0));
        noCoat("one wanted, nothing there", nothing, 1, 0, 0, 0);
        SpunTales noTeller = hearth(kinds(), 1, "0");
        noCoat("nobody tells", noTeller, 1, 0, 0, 0);
        SpunTales noTale = hearth(kinds(TRUE), 1);
        noCoat("no tale", noTale, 1, 0, 0, 0);
        SpunTales one = plain("036999");
        coatDue("nothing wanted", one, 0, wanted(0, 0, 0, 0));
        coatDue("as many", one, 0, wanted(1, 1, 1, 3), 0);
        coatDue("fewer", one, 1, wanted(0, 0, 0, 1), 0);
        noCoat("one more coarse", one, 2, 1, 1, 3);
        noCoat("one more plain", one, 1, 2, 1, 3);
        noCoat("one more fine", one, 1, 1, 2, 3);
        noCoat("one more lace", one, 1, 1, 1, 4);
        SpunTales eight = plain("9", "9", "9", "9", "9", "9", "9", "9");
        coatDue("all eight", eight, 2, wanted(0, 0, 0, 8), 0, 10, 20, 30, 40, 50, 60, 70);
        coatDue("the first seven", eight, 2, wanted(0, 0, 0, 7), 0, 10, 20, 30, 40, 50, 60);
        noCoat("none twice", eight, 0, 0, 0, 9);
        SpunTales most = plain("000000000", "000000000", "000000000", "000000000", "000000000", "000000000", "000000000", "000000000");
        coatDue("72 yards", most, 0, wanted(72, 0, 0, 0), 0, 10, 20, 30, 40, 50, 60, 70);
        noCoat("73 yards", most, 73, 0, 0, 0);
        noCoat("99 yards", most, 99, 0, 0, 0);
    }

    private static void firstCoats() {
        SpunTales x = hearth(kinds(DULL, TRUE, TRUE, GRAND), 1, "3", "9", "99", "6", "96");
        coatDue("the first teller by whom it is so", x, 0, wanted(0, 1, 0, 0), 1);
        coatDue("the first tale by which it is so", x, 0, wanted(0, 0, 0, 1), 11);
        coatDue("fewest are ahead of first", x, 0, wanted(0, 0, 0, 2), 21);
        coatDue("rising", x, 0, wanted(0, 0, 0, 3), 11, 21);
        coatDue("of one size the first", x, 0, wanted(0, 1, 2, 0), 1, 20);
        coatDue("each by a teller of its own", x, 0, wanted(1, 1, 1, 0), 0, 40);
        coatDue("a tale in between is left out", x, 0, wanted(0, 0, 0, 4), 11, 21, 41);
        noCoat("one more", x, 0, 0, 0, 5);
        coatDue("by the last teller alone", hearth(kinds(TRUE, TRUE, DULL, GRAND), 1, "7"), 0, wanted(0, 0, 0, 1), 3);
    }

    private static void coatsAndMind() {
        SpunTales x = plain("9", "0");
        x.memory(1);
        coatDue("not in mind", x, 0, wanted(0, 0, 0, 1), 0);
        x.evening(0, 0, 9, 1);
        noCoat("in mind in the next evening", x, 0, 0, 0, 1);
        coatDue("so it is fine", x, 0, wanted(0, 0, 1, 0), 0);
        x.evening(0, 1, 9, 0);
        coatDue("not in mind any more", x, 0, wanted(0, 0, 0, 1), 0);
        due("nothing is told by it", x.count(3), 2);
        SpunTales y = hearth(kinds(TRUE), 2, "9");
        y.evening(0, 0, 9, 2);
        coatDue("in another one's mind", y, 0, wanted(0, 0, 0, 1), 0);
        SpunTales z = plain("99");
        z.evening(0, 0, 1, 1);
        coatDue("one that is broken off is told from its first sentence", z, 0, wanted(0, 0, 0, 2), 0);
    }

    private static void wantedItems() {
        for (int lane = 0; lane < 3; lane++) {
            for (int place = 0; place < 4; place++) {
                SpunTales x = plain("0");
                x.sheet(0, lane, 24);
                for (int v : new int[] {-1, 100, 127, -128}) {
                    x.item(0, lane, 20 + place, v);
                    due("lane " + lane + ", wanted " + v + " at " + place, x.coat(0, 0, lane, 20, -1), NOT);
                    due("lane " + lane + ", ahead of it", x.coat(0, 0, lane, 16, -1), 0);
                }
                x.item(0, lane, 20 + place, 99);
                due("lane " + lane + ", wanted 99 at " + place, x.coat(0, 0, lane, 20, -1), NONE);
                x.item(0, lane, 20 + place, 0);
                due("lane " + lane + ", wanted 0 at " + place, x.coat(0, 0, lane, 20, -1), 0);
                due("lane " + lane + ", 4 items are not left", x.coat(0, 0, lane, 21, -1), INDEX);
            }
        }
        SpunTales x = plain("0");
        for (int size = 0; size <= 4; size++) {
            x.sheet(0, 1, size);
            due("of " + size + " items", x.coat(0, 0, 1, 0, -1), size < 4 ? INDEX : 0);
        }
        fill(x, 0, 1, 1, 0, 0, 0, 0, 1);
        due("the item ahead is not taken", x.coat(0, 0, 1, 1, -1), 0);
        due("the item behind is not taken", x.coat(0, 0, 1, 0, -1), 1);
        due("the last is", x.coat(0, 0, 1, 2, -1), NONE);
    }

    private static void readDue(String what, SpunTales x, int n, int rows, int... first) {
        due(what + ": how many", x.read(0, 0, 0, n, -1), rows);
        for (int k = 0; k < 8; k++) due(what + ": " + k, x.read(0, 0, 0, n, k), k < first.length ? first[k] : NONE);
    }

    private static void reads() {
        SpunTales nothing = new SpunTales();
        nothing.sheet(0, 0, 24);
        readDue("no tale, 1", nothing, 1, 0);
        readDue("no tale, 16", nothing, 16, 0);
        SpunTales one = plain("2");
        one.sheet(0, 0, 24);
        readDue("one tale, 1", one, 1, 1, 0);
        readDue("none twice", one, 2, 0);
        SpunTales eight = plain("0", "1", "2", "0", "1", "2", "0", "1");
        eight.sheet(0, 0, 24);
        readDue("one of eight", eight, 1, 8, 0);
        readDue("all of eight", eight, 8, 40320, 0, 1, 2, 3, 4, 5, 6, 7);
        readDue("nine of eight", eight, 9, 0);
        SpunTales pairs = plain("00", "00", "00", "00", "00", "00", "00", "00");
        pairs.sheet(0, 0, 24);
        readDue("16 by all of eight", pairs, 16, 40320, 0, 1, 2, 3, 4, 5, 6, 7);
        readDue("15", pairs, 15, 0);
        SpunTales two = plain("000000000", "0000000", "00000000", "00000000");
        two.sheet(0, 0, 24);
        readDue("16 by two", two, 16, 4, 0, 1);
        readDue("9 by one", two, 9, 1, 0);
        readDue("10 by none", two, 10, 0);
        SpunTales sorts = plain("0258", "9", "36");
        fill(sorts, 0, 0, 1, 2, 3, 0, 0, 1, 2);
        readDue("sorts, not tensions", sorts, 7, 1, 2, 1, 0);
        readDue("one short of an end", sorts, 6, 0);
        sorts.item(0, 0, 6, 1);
        readDue("another last one", sorts, 7, 0);
        SpunTales dead = plain("3", "36", "9");
        fill(dead, 0, 0, 1, 2, 3);
        readDue("what fits at first may lead nowhere", dead, 3, 1, 1, 2);
        readDue("and may fit up to the end of the row", dead, 1, 1, 0);
        SpunTales mind = plain("9");
        mind.evening(0, 0, 1, 1);
        fill(mind, 0, 0, 3);
        readDue("tales as they are, whatever is in mind", mind, 1, 1, 0);
    }

    private interface OnRow {
        int answer(SpunTales x, int lane, int i, int n);
    }

    /** A call that takes n items of sheet 0 from i on, each 0 to most, at most mostItems of them. */
    private static void takenRow(String what, OnRow call, int most, int mostItems) {
        for (int lane = 0; lane < 3; lane++) {
            rowIndices(what + ", lane " + lane, call, lane, mostItems);
            rowValues(what + ", lane " + lane, call, lane, most, mostItems);
        }
        SpunTales x = plain("0", "00");
        due(what + ": of nothing", call.answer(x, 0, 0, 1), NULL);
        x.sheet(0, 0, 0);
        due(what + ": of no item", call.answer(x, 0, 0, 1), INDEX);
        x.sheet(0, 0, 1);
        due(what + ": of one item", Math.min(0, call.answer(x, 0, 0, 1)), 0);
        due(what + ": two of one item", call.answer(x, 0, 0, 2), INDEX);
        x.drop(0);
        due(what + ": of nothing", call.answer(x, 0, 0, 1), NULL);
    }

    private static void rowIndices(String what, OnRow call, int lane, int mostItems) {
        SpunTales x = plain("0", "00");
        x.sheet(0, lane, 24);
        due(what + ": from the first on", Math.min(0, call.answer(x, lane, 0, mostItems)), 0);
        due(what + ": up to the end", Math.min(0, call.answer(x, lane, 24 - mostItems, mostItems)), 0);
        due(what + ": one too far", call.answer(x, lane, 25 - mostItems, mostItems), INDEX);
        due(what + ": the last item", Math.min(0, call.answer(x, lane, 23, 1)), 0);
        due(what + ": behind it", call.answer(x, lane, 24, 1), INDEX);
        due(what + ": ahead of the first", call.answer(x, lane, -1, 1), INDEX);
        due(what + ": far ahead", call.answer(x, lane, LOW, mostItems), INDEX);
        due(what + ": far behind", call.answer(x, lane, HIGH, mostItems), INDEX);
        due(what + ": another lane", call.answer(x, (lane + 1) % 3, 0, 1), CAST);
        due(what + ": the other lane", call.answer(x, (lane + 2) % 3, 0, 1), CAST);
    }

    private static void rowValues(String what, OnRow call, int lane, int most, int mostItems) {
        SpunTales x = plain("0", "00");
        x.sheet(0, lane, 24);
        for (int place = 0; place < mostItems; place++) {
            for (int v : new int[] {-1, most + 1, 127, -128}) {
                x.item(0, lane, 4 + place, v);
                due(what + ": " + v + " at " + place, call.answer(x, lane, 4, mostItems), NOT);
            }
            x.item(0, lane, 4 + place, most);
            due(what + ": the most at " + place, Math.min(0, call.answer(x, lane, 4, mostItems)), 0);
            x.item(0, lane, 4 + place, 0);
        }
        x.item(0, lane, 3, -1);
        x.item(0, lane, 4 + mostItems - 1, -1);
        due(what + ": what stands ahead and behind is not taken", Math.min(0, call.answer(x, lane, 4, mostItems - 1)), 0);
    }

    private static void untangles() {
        SpunTales nothing = new SpunTales();
        nothing.sheet(0, 0, 16);
        due("no tale", nothing.untangle(0, 0, 0, 1, 0), 0);
        due("no tale", nothing.untangle(0, 0, 0, 1, 1), NONE);
        SpunTales one = plain("0");
        one.sheet(0, 0, 16);
        due("one tale", one.untangle(0, 0, 0, 1, 0), 0);
        due("one tale is no pair with itself", one.untangle(0, 0, 0, 2, 1), NONE);
        SpunTales two = plain("0", "0");
        two.sheet(0, 0, 16);
        due("n 1 is no pair", two.untangle(0, 0, 0, 1, 0), 0);
        due("the smallest pair, both ways", two.untangle(0, 0, 0, 2, 0), 2);
        due("the first", two.untangle(0, 0, 0, 2, 1), 1);
        due("one more", two.untangle(0, 0, 0, 3, 1), NONE);
        SpunTales eight = plain("00", "00", "00", "00", "00", "00", "00", "00");
        eight.sheet(0, 0, 16);
        due("all pairs of eight", eight.untangle(0, 0, 0, 4, 0), 56);
        due("the first", eight.untangle(0, 0, 0, 4, 1), 1);
        SpunTales last = plain("1", "1", "1", "1", "1", "1", "23", "3");
        fill(last, 0, 2, 3, 2, 3);
        due("the last pair of all", last.untangle(0, 2, 0, 3, 0), 1);
        due("76", last.untangle(0, 2, 0, 3, 1), 76);
        SpunTales longest = plain("123456789", "1234567", "12345678", "12345678");
        fill(longest, 0, 1, 1, 1, 2, 2, 3, 3, 4, 4, 5, 5, 6, 6, 7, 7, 8, 9);
        due("16: 9 and 7, both ways", longest.untangle(0, 1, 0, 16, 0), 2);
        due("the first", longest.untangle(0, 1, 0, 16, 1), 1);
        longest.item(0, 1, 15, 8);
        due("16: 8 and 8, both ways", longest.untangle(0, 1, 0, 16, 0), 2);
        due("the first", longest.untangle(0, 1, 0, 16, 1), 23);
        longest.item(0, 1, 0, 2);
        due("another first sentence", longest.untangle(0, 1, 0, 16, 0), 0);
    }

    private static void tangles() {
        SpunTales x = plain("7", "1", "123456789", "987654321", "24", "135");
        for (int lane = 0; lane < 3; lane++) {
            x.change(0, 0, 7);
            x.sheet(0, lane, 2);
            due("one and one", x.tangle(0, 1, 0, lane, 0), 2);
            itemsDue("one and one", x, 0, lane, 0, 7, 1);
            x.sheet(0, lane, 1);
            x.change(0, 0, 7);
            due("there is room for one", x.tangle(0, 1, 0, lane, 0), INDEX);
            itemsDue("so nothing came", x, 0, lane, 0, 0);
            x.sheet(0, lane, 0);
            due("there is no room", x.tangle(0, 1, 0, lane, 0), INDEX);
            x.sheet(0, lane, 18);
            due("nine and nine", x.tangle(2, 3, 0, lane, 0), 18);
            itemsDue("nine and nine", x, 0, lane, 0, 1, 9, 2, 8, 3, 7, 4, 6, 5, 5, 6, 4, 7, 3, 8, 2, 9, 1);
            x.sheet(0, lane, 17);
            due("one too few", x.tangle(2, 3, 0, lane, 0), INDEX);
            itemsDue("so nothing came", x, 0, lane, 0, 0, 0);
            x.sheet(0, lane, 24);
            due("at the end", x.tangle(3, 2, 0, lane, 6), 18);
            itemsDue("at the end", x, 0, lane, 5, 0, 9, 1, 8, 2);
            itemsDue("at the end", x, 0, lane, 22, 1, 9);
            due("one too far", x.tangle(2, 3, 0, lane, 7), INDEX);
            due("ahead of the first", x.tangle(2, 3, 0, lane, -1), INDEX);
        }
    }

    private static void tanglesOfUnlikeLengths() {
        SpunTales x = plain("7", "1", "123456789", "24", "135");
        x.sheet(0, 0, 12);
        due("one and nine", x.tangle(1, 2, 0, 0, 1), 10);
        itemsDue("one and nine", x, 0, 0, 0, 0, 1, 1, 2, 3, 4, 5, 6, 7, 8, 9, 0);
        x.sheet(0, 0, 12);
        due("nine and one", x.tangle(2, 1, 0, 0, 1), 10);
        itemsDue("nine and one", x, 0, 0, 0, 0, 1, 1, 2, 3, 4, 5, 6, 7, 8, 9, 0);
        x.sheet(0, 0, 12);
        due("two and three", x.tangle(3, 4, 0, 0, 0), 5);
        itemsDue("two and three", x, 0, 0, 0, 2, 1, 4, 3, 5, 0);
        due("three and two, over it", x.tangle(4, 3, 0, 0, 1), 5);
        itemsDue("three and two, over it", x, 0, 0, 0, 2, 1, 2, 3, 4, 5, 0);
        due("one alike", x.tangle(3, 3, 0, 0, 0), BAD);
        itemsDue("so nothing came", x, 0, 0, 0, 2, 1, 2, 3, 4, 5, 0);
        SpunTales same = plain("5", "24", "24");
        same.sheet(0, 0, 4);
        due("two tales that have the same sentences are two", same.tangle(1, 2, 0, 0, 0), 4);
        itemsDue("two tales that have the same sentences are two", same, 0, 0, 0, 2, 2, 4, 4);
    }

    private static void passedDue(String what, SpunTales x, int tale, int k, int n, int rows, int... first) {
        due(what + ": how many", x.passed(tale, k, 0, 0, 0, n, -1), rows);
        for (int j = 0; j < k; j++) due(what + ": " + j, x.passed(tale, k, 0, 0, 0, n, j), first.length == 0 ? NONE : first[j]);
        due(what + ": one too far", x.passed(tale, k, 0, 0, 0, n, k), BAD);
    }

    private static void passedRows() {
        SpunTales nobody = hearth(kinds(), 0, "0");
        nobody.sheet(0, 0, 9);
        for (int k = 1; k <= 3; k++) passedDue("nobody tells, k " + k, nobody, 0, k, 1, 0);
        SpunTales one = hearth(kinds(DULL), 0, "3");
        fill(one, 0, 0, 0);
        passedDue("one teller thrice", one, 0, 3, 1, 1, 0, 0, 0);
        passedDue("one teller twice", one, 0, 2, 1, 0);
        SpunTales four = hearth(kinds(TRUE, TRUE, TRUE, TRUE), 0, "123456789");
        fill(four, 0, 0, 1, 2, 3, 4, 5, 6, 7, 8, 9);
        passedDue("four TRUE ones once", four, 0, 1, 9, 4, 0);
        passedDue("four TRUE ones twice", four, 0, 2, 9, 16, 0, 0);
        passedDue("four TRUE ones thrice", four, 0, 3, 9, 64, 0, 0, 0);
        passedDue("one fewer", four, 0, 1, 8, 0);
        passedDue("of one", four, 0, 1, 1, 0);
        four.item(0, 0, 8, 8);
        passedDue("another last one", four, 0, 1, 9, 0);
        SpunTales last = hearth(kinds(TRUE, DULL, GRAND, TURNED), 0, "19");
        fill(last, 0, 0, 8, 0);
        passedDue("by the last teller", last, 0, 1, 2, 1, 3);
        fill(last, 0, 0, 0, 6);
        passedDue("thrice: DULL, and twice TURNED ahead, behind or around", last, 0, 3, 2, 4, 1, 1, 1);
        fill(last, 0, 0, 2, 8);
        passedDue("9 at most, then less", last, 0, 2, 2, 1, 2, 1);
        fill(last, 0, 0, 2, 9);
        passedDue("0 at least, then more", last, 0, 2, 2, 1, 1, 2);
        SpunTales longer = hearth(kinds(TRUE), 0, "12");
        fill(longer, 0, 0, 1, 2, 0);
        passedDue("one more than the tale has", longer, 0, 1, 3, 0);
    }

    private static void rowsThatAreTaken() {
        takenRow("read", (x, lane, i, n) -> x.read(0, lane, i, n, -1), 3, 16);
        takenRow("untangle", (x, lane, i, n) -> x.untangle(0, lane, i, n, 0), 9, 16);
        takenRow("passed", (x, lane, i, n) -> x.passed(0, 1, 0, lane, i, n, -1), 9, 9);
    }

    private static void sheetSizes() {
        for (int sheet = 0; sheet < 4; sheet++) {
            for (int lane = 0; lane < 3; lane++) {
                SpunTales x = new SpunTales();
                due("it holds nothing at first", x.drop(sheet), NULL);
                for (int n = 0; n <= 24; n++) {
                    due("a row of " + n, x.sheet(sheet, lane, n), n);
                    due("its last item", x.item(sheet, lane, n - 1, 1), n > 0 ? 1 : INDEX);
                    due("behind it", x.item(sheet, lane, n, 1), INDEX);
                }
                due("25", x.sheet(sheet, lane, 25), BAD);
                due("the greatest", x.sheet(sheet, lane, HIGH), BAD);
                due("-1", x.sheet(sheet, lane, -1), SIZE);
                due("the least", x.sheet(sheet, lane, LOW), SIZE);
                for (int other = 0; other < 3; other++) due("lane " + other, x.item(sheet, other, 0, 1), other == lane ? 1 : CAST);
                due("dropped", x.drop(sheet), 24);
                due("dropped twice", x.drop(sheet), NULL);
                due("nothing has no item", x.item(sheet, lane, 0, 1), NULL);
                due("an empty row", x.sheet(sheet, lane, 0), 0);
                due("is not nothing", x.drop(sheet), 0);
                due("then it is", x.drop(sheet), NULL);
            }
        }
    }

    private static void newRowsAreOfZeros() {
        SpunTales x = plain("5");
        for (int before = 0; before < 3; before++) {
            for (int lane = 0; lane < 3; lane++) {
                fill(x, 2, before, 7, 7, 7);
                x.sheet(2, lane, 3);
                itemsDue("a new row", x, 2, lane, 0, 0, 0, 0);
            }
        }
        fill(x, 2, 0, 7, 7, 7);
        x.sheet(2, 0, 1);
        x.sheet(2, 0, 3);
        itemsDue("a shorter one in between", x, 2, 0, 0, 0, 0, 0);
        fill(x, 2, 0, 7, 7, 7);
        x.drop(2);
        x.sheet(2, 0, 3);
        itemsDue("dropped in between", x, 2, 0, 0, 0, 0, 0);
        int[] full = new int[24];
        java.util.Arrays.fill(full, 7);
        fill(x, 2, 2, full);
        x.sheet(2, 2, 24);
        itemsDue("24 items", x, 2, 2, 0, new int[24]);
        fill(x, 2, 0, 7, 7, 7);
        x.sheet(2, 0, -1);
        x.sheet(2, 0, 25);
        itemsDue("a refused one leaves the row", x, 2, 0, 0, 7, 7, 7);
        fill(x, 1, 1, 4);
        fill(x, 3, 1, 6);
        x.sheet(0, 1, 1);
        itemsDue("another sheet", x, 2, 0, 0, 7, 7, 7);
        itemsDue("another sheet", x, 1, 1, 0, 4);
        itemsDue("another sheet", x, 3, 1, 0, 6);
    }

    /** A value that is kept by its lowest bits: what it is then, or -1 if that is not 0 to 9. */
    private static void lowestBits(int lane, long v, int want) {
        SpunTales x = plain("5");
        x.sheet(0, lane, 3);
        due("lane " + lane + ", item " + v, x.item(0, lane, 1, v), 1);
        if (want >= 0) {
            itemsDue("lane " + lane + ", item " + v, x, 0, lane, 0, 0, want, 0);
        } else {
            due("lane " + lane + ", item " + v + " is not 0 .. 9", x.untangle(0, lane, 1, 1, 0), NOT);
        }
    }

    private static void itemsAreCutToTheirLanes() {
        int[] bits = {8, 16, 32};
        for (int lane = 0; lane < 3; lane++) {
            long turn = 1L << bits[lane];
            for (int digit : new int[] {0, 1, 9}) {
                lowestBits(lane, digit, digit);
                lowestBits(lane, turn + digit, digit);
                lowestBits(lane, digit - turn, digit);
                lowestBits(lane, 5 * turn + digit, digit);
                lowestBits(lane, Long.MIN_VALUE + digit, digit);
                lowestBits(lane, turn / 2 + digit, -1);
                lowestBits(lane, digit - turn / 2, -1);
            }
            lowestBits(lane, -1, -1);
            lowestBits(lane, 10, -1);
            lowestBits(lane, turn - 1, -1);
            lowestBits(lane, turn / 2 - 1, -1);
            lowestBits(lane, Long.MAX_VALUE, -1);
        }
        lowestBits(1, 256, -1);
        lowestBits(2, 256, -1);
        lowestBits(2, 65536, -1);
    }

    private static void copies() {
        for (int lane = 0; lane < 3; lane++) {
            SpunTales x = plain("5");
            fill(x, 0, lane, 1, 2, 3, 4, 5);
            x.sheet(1, lane, 7);
            due("all", x.copy(0, 0, 1, 2, 5), 5);
            itemsDue("all", x, 1, lane, 0, 0, 0, 1, 2, 3, 4, 5);
            due("one", x.copy(0, 4, 1, 0, 1), 1);
            itemsDue("one", x, 1, lane, 0, 5, 0, 1);
            due("to another lane", x.sheet(2, (lane + 1) % 3, 5), 5);
            due("to another lane", x.copy(0, 0, 2, 0, 1), CAST);
            due("from another lane", x.copy(2, 0, 0, 0, 1), CAST);
            due("none, to another lane", x.copy(2, 0, 0, 0, 0), CAST);
            itemsDue("the source stays", x, 0, lane, 0, 1, 2, 3, 4, 5);
            due("in the same one, one on", x.copy(0, 0, 0, 1, 4), 4);
            itemsDue("in the same one, one on", x, 0, lane, 0, 1, 1, 2, 3, 4);
            due("in the same one, one back", x.copy(0, 1, 0, 0, 4), 4);
            itemsDue("in the same one, one back", x, 0, lane, 0, 1, 2, 3, 4, 4);
            due("in the same one, two on", x.copy(0, 0, 0, 2, 3), 3);
            itemsDue("in the same one, two on", x, 0, lane, 0, 1, 2, 1, 2, 3);
            due("in the same one, all", x.copy(0, 0, 0, 0, 5), 5);
            itemsDue("in the same one, all", x, 0, lane, 0, 1, 2, 1, 2, 3);
        }
    }

    private static void copyIndices() {
        SpunTales x = plain("5");
        fill(x, 0, 0, 1, 2, 3, 4, 5);
        x.sheet(1, 0, 24);
        x.sheet(2, 0, 0);
        int[][] taken = {{0, 0, 0}, {5, 24, 0}, {0, 0, 5}, {0, 19, 5}, {4, 23, 1}, {5, 0, 0}};
        for (int[] t : taken) due("from " + t[0] + " to " + t[1] + ", n " + t[2], x.copy(0, t[0], 1, t[1], t[2]), t[2]);
        int[][] refused = {{-1, 0, 0}, {0, -1, 0}, {6, 0, 0}, {0, 25, 0}, {0, 0, -1}, {0, 0, 6}, {1, 0, 5}, {0, 20, 5}, {5, 0, 1}, {0, 24, 1},
            {LOW, 0, 0}, {0, LOW, 0}, {0, 0, LOW}, {HIGH, 0, 0}, {0, HIGH, 0}, {0, 0, HIGH}, {HIGH, HIGH, HIGH}, {LOW, LOW, LOW}, {1, 1, HIGH},
            {HIGH, 0, 1}, {0, HIGH, 1}, {HIGH, 0, LOW}, {-1, -1, 1}, {5, 0, -1}, {5, 5, -5}};
        for (int[] r : refused) due("from " + r[0] + " to " + r[1] + ", n " + r[2], x.copy(0, r[0], 1, r[1], r[2]), INDEX);
        due("none of no items", x.copy(2, 0, 2, 0, 0), 0);
        due("one of no items", x.copy(2, 0, 1, 0, 1), INDEX);
        due("to no items", x.copy(0, 0, 2, 0, 1), INDEX);
        due("none to no items", x.copy(0, 3, 2, 0, 0), 0);
        due("from nothing", x.copy(3, 0, 0, 0, 0), NULL);
        due("to nothing", x.copy(0, 0, 3, 0, 0), NULL);
        due("from nothing to nothing", x.copy(3, 0, 3, 0, 0), NULL);
        x.sheet(3, 0, 24);
        for (int i = 0; i < 24; i++) x.item(1, 0, i, i % 10);
        due("24 items", x.copy(1, 0, 3, 0, 24), 24);
        itemsDue("24 items", x, 3, 0, 0, 0, 1, 2, 3, 4, 5, 6, 7, 8, 9, 0, 1, 2, 3, 4, 5, 6, 7, 8, 9, 0, 1, 2, 3);
    }

    private static void terms() {
        calls();
        objectsHaveNothingInCommon();
        talesAreEight();
        sentencesAreOneToNine();
        sortsOfTensions();
        kindsOfTellers();
        turnedAndBrokenOff();
        for (int memory : new int[] {1, 2, 20, 98, 99}) mindLastsSoLong(memory);
        memoryCountsAsItIsNow();
        mindIsOfEachEvening();
        mindBeginsAnewWithEachEnd();
        allInMind();
    }

    private static void talesAndEvenings() {
        typedBytes();
        typedOrder();
        tapeOf24();
        faultsAndTheirPlaces();
        blanksCountForNothing();
        fullOfTales();
        changedSentences();
        changeWhileBrokenOff();
        tellersAndSpinnersAreFour();
        yardsAreUsed();
        countOfWhatIsBrokenOff();
        eveningUpToTheEnd();
        setsOfSpinners();
        goesOnOrBegins();
        whoHearsTheEnd();
        yardsOfAllWhoAreThere();
        eveningsAre9999();
    }

    private static void storesPlaysImages() {
        stores();
        storesAndMind();
        plays();
        rests();
        someAlwaysRest();
        imageOfNothing();
        imageOfAll();
        imagesLeaveSheetsAndTape();
        soughtAgainBehindAnImage();
    }

    private static void sheets() {
        coats();
        firstCoats();
        coatsAndMind();
        wantedItems();
        reads();
        untangles();
        tangles();
        tanglesOfUnlikeLengths();
        passedRows();
        rowsThatAreTaken();
        sheetSizes();
        newRowsAreOfZeros();
        itemsAreCutToTheirLanes();
        copies();
        copyIndices();
    }

    public static void main(String[] args) {
        terms();
        talesAndEvenings();
        storesPlaysImages();
        sheets();
        System.out.println(wrong == 0 ? held + " edges are as told" : wrong + " edges are not as told");
        if (wrong != 0) System.exit(1);
    }
}

/** Each promise of the document: ordinary inputs, the edges that it names, wrong inputs. */
public final class PromiseTests {
    private static final int BAD = -1, NOT = -2, FULL = -3, NONE = -4, NULL = -11, CAST = -12, INDEX = -13, SIZE = -14;
    private static final int LOW = Integer.MIN_VALUE, HIGH = Integer.MAX_VALUE;
    private static int wrong = 0;

    private static void due(int promise, String call, int got, int want) {
        if (got != want) {
            wrong++;
            System.out.println("promise " + promise + ": " + call + " answered " + got + ", due is " + want);
        }
    }

    private static void type(SpunTales x, String text) {
        for (char c : text.toCharArray()) x.type(c, 1);
    }

    private static int tale(SpunTales x, String text) {
        type(x, text);
        return x.tale();
    }

    /** Four tellers, one of each kind in the order of kinds, so many spinners, and the tales. */
    private static SpunTales hearth(int spinners, String... tales) {
        SpunTales x = new SpunTales();
        for (String text : tales) tale(x, text);
        for (int kind = 0; kind < 4; kind++) x.teller(kind);
        for (int s = 0; s < spinners; s++) x.spinner();
        return x;
    }

    private static void sheet(SpunTales x, int sheet, int lane, int... items) {
        x.sheet(sheet, lane, items.length);
        for (int i = 0; i < items.length; i++) x.item(sheet, lane, i, items[i]);
    }

    private static void yardsDue(int promise, SpunTales x, int spinner, int... want) {
        for (int sort = 0; sort < 4; sort++) due(promise, "yards(" + spinner + ", " + sort + ")", x.yards(spinner, sort), want[sort]);
    }

    private static void promise1() {
        SpunTales x = new SpunTales();
        for (int what = 0; what < 4; what++) due(1, "count(" + what + ")", x.count(what), 0);
        for (int what = 4; what < 7; what++) due(1, "count(" + what + ")", x.count(what), NONE);
        due(1, "told(0, -1)", x.told(0, -1), BAD);
        due(1, "memory(1)", x.memory(1), 20);
        due(1, "restore()", x.restore(), NONE);
        for (int s = 0; s < 4; s++) due(1, "drop(" + s + ")", x.drop(s), NULL);
        due(1, "type('1')", x.type('1', 1), 1);
        SpunTales y = new SpunTales();
        due(1, "another object's tape", y.type('1', 1), 1);
    }

    private static void promise2() {
        SpunTales x = new SpunTales();
        for (int n : new int[] {0, -1, 9, LOW, HIGH}) due(2, "type(.., " + n + ")", x.type(0x3131313131313131L, n), BAD);
        due(2, "a byte 31", x.type(0x311F31L, 3), BAD);
        due(2, "a byte 127", x.type(0x7F3131L, 3), BAD);
        due(2, "a byte 255", x.type(-1L, 8), BAD);
        due(2, "a byte 0", x.type(0x31L, 2), BAD);
        due(2, "refused ones change nothing", x.type(0x207EL, 2), 2);
        due(2, "higher bytes count for nothing", x.type(0x7F31L, 1), 3);
        due(2, "the order: tale() finds 126 at place 1", x.tale(), -21);
        due(2, "8 bytes", x.type(0x3132333435363738L, 8), 8);
        due(2, "16 bytes", x.type(0x2020202020202020L, 8), 16);
        due(2, "22 bytes", x.type(0x202020202020L, 6), 22);
        due(2, "25 are too many", x.type(0x202020L, 3), FULL);
        due(2, "BAD is ahead of FULL", x.type(0x201F20L, 3), BAD);
        due(2, "24 are not", x.type(0x2039L, 2), 24);
        due(2, "full", x.type(' ', 1), FULL);
        due(2, "what FULL refuses changes nothing", x.tale(), 0);
        due(2, "told(0, -1)", x.told(0, -1), 9);
        due(2, "the highest byte is the first", x.told(0, 0), 1);
        due(2, "the next call is behind it", x.told(0, 8), 9);
    }

    private static void promise3() {
        SpunTales x = new SpunTales();
        due(3, "nothing", x.tale(), -20);
        due(3, "blanks", tale(x, "   "), -23);
        due(3, "a letter", tale(x, "a"), -20);
        due(3, "behind blanks", tale(x, "  a"), -22);
        due(3, "below digits", tale(x, "1/"), -21);
        due(3, "above digits", tale(x, "12:3x"), -22);
        due(3, "ten digits", tale(x, "1234567890"), -29);
        due(3, "ten digits with blanks", tale(x, " 12345678 9 0"), -32);
        due(3, "nine digits and a letter", tale(x, "123456789 z"), -30);
        due(3, "24 blanks", tale(x, "                        "), -44);
        due(3, "blanks count for nothing", tale(x, " 1 23  "), 0);
        due(3, "told(0, -1)", x.told(0, -1), 3);
        due(3, "told(0, 2)", x.told(0, 2), 3);
        due(3, "the tape is empty then", x.type('5', 1), 1);
        due(3, "tale()", x.tale(), 1);
        due(3, "nine digits and 15 blanks", tale(x, "      0 0 0 0 0 0 0 0 9 "), 2);
        for (int t = 3; t < 8; t++) due(3, "tale()", tale(x, "7"), t);
        due(3, "a FAULT is ahead of FULL", tale(x, "7-"), -21);
        due(3, "FULL", tale(x, "77"), FULL);
        due(3, "the tape is empty, too", x.type('5', 1), 1);
        due(3, "count(0)", x.count(0), 8);
    }

    private static void promise4() {
        SpunTales x = hearth(1, "369", "7");
        due(4, "change(0, 1, 9)", x.change(0, 1, 9), 6);
        due(4, "it is so then", x.told(0, 1), 9);
        due(4, "change(0, 1, 0)", x.change(0, 1, 0), 9);
        due(4, "the others stay", x.told(0, 2), 9);
        due(4, "the other tale stays", x.told(1, 0), 7);
        int[][] bad = {{-1, 0, 0}, {2, 0, 0}, {0, -1, 0}, {0, 3, 0}, {1, 1, 0}, {0, 0, -1}, {0, 0, 10}, {LOW, LOW, LOW}, {HIGH, HIGH, HIGH}};
        for (int[] b : bad) due(4, "change " + b[0] + " " + b[1] + " " + b[2], x.change(b[0], b[1], b[2]), BAD);
        x.evening(0, 0, 1, 1);
        due(4, "broken off", x.change(0, 0, 5), NOT);
        due(4, "BAD is ahead of NOT", x.change(0, 3, 5), BAD);
        due(4, "it is as it was", x.told(0, 0), 3);
        due(4, "another one is not broken off", x.change(1, 0, 8), 7);
        x.evening(0, 1, 1, 1);
        due(4, "not any more", x.change(0, 0, 5), 3);
    }

    private static void promise5() {
        SpunTales x = new SpunTales();
        for (int kind : new int[] {-1, 4, LOW, HIGH}) due(5, "teller(" + kind + ")", x.teller(kind), BAD);
        for (int t = 0; t < 4; t++) due(5, "teller(3)", x.teller(3), t);
        due(5, "a fifth one", x.teller(0), FULL);
        due(5, "BAD is ahead of FULL", x.teller(4), BAD);
        due(5, "count(1)", x.count(1), 4);
    }

    private static void promise6() {
        SpunTales x = new SpunTales();
        for (int s = 0; s < 4; s++) due(6, "spinner()", x.spinner(), s);
        due(6, "a fifth one", x.spinner(), FULL);
        due(6, "count(2)", x.count(2), 4);
        yardsDue(6, x, 3, 0, 0, 0, 0);
        due(6, "mind(3)", x.mind(3), 0);
    }

    private static void promise7() {
        SpunTales x = hearth(1, "9");
        for (int v : new int[] {0, -1, 100, LOW, HIGH}) due(7, "memory(" + v + ")", x.memory(v), BAD);
        due(7, "memory(99)", x.memory(99), 20);
        due(7, "memory(1)", x.memory(1), 99);
        x.evening(0, 0, 1, 1);
        due(7, "in mind for 1", x.mind(0), 1);
        x.evening(0, 0, 1, 0);
        due(7, "not for 2", x.mind(0), 0);
        due(7, "memory(2)", x.memory(2), 1);
        due(7, "it counts from now on for what was told, too", x.mind(0), 1);
    }

    private static void promise8() {
        SpunTales x = hearth(0, "0", "123456789");
        due(8, "told(0, -1)", x.told(0, -1), 1);
        due(8, "told(1, -1)", x.told(1, -1), 9);
        due(8, "told(0, 0)", x.told(0, 0), 0);
        due(8, "told(1, 8)", x.told(1, 8), 9);
        int[][] bad = {{0, 1}, {1, 9}, {0, -2}, {2, -1}, {-1, -1}, {2, 0}, {LOW, 0}, {0, LOW}, {HIGH, 0}, {0, HIGH}};
        for (int[] b : bad) due(8, "told " + b[0] + " " + b[1], x.told(b[0], b[1]), BAD);
    }

    private static void promise9() {
        SpunTales x = hearth(0, "0178");
        int[][] want = {{0, 1, 7, 8}, {0, 0, 6, 7}, {2, 3, 9, 9}, {7, 6, 0, 0}};
        for (int t = 0; t < 4; t++) {
            for (int i = 0; i < 4; i++) due(9, "tells(" + t + ", 0, " + i + ")", x.tells(t, 0, i), want[t][i]);
            due(9, "behind the end", x.tells(t, 0, 4), BAD);
        }
        int[][] bad = {{0, 0, -1}, {4, 0, 0}, {-1, 0, 0}, {0, 1, 0}, {0, -1, 0}, {LOW, LOW, LOW}, {HIGH, HIGH, HIGH}, {3, 0, LOW}};
        for (int[] b : bad) due(9, "tells " + b[0] + " " + b[1] + " " + b[2], x.tells(b[0], b[1], b[2]), BAD);
    }

    private static void promise10() {
        SpunTales x = hearth(2, "012345678", "9");
        x.evening(0, 0, 9, 2);
        x.evening(0, 1, 9, 2);
        yardsDue(10, x, 1, 3, 3, 3, 1);
        yardsDue(10, x, 0, 0, 0, 0, 0);
        int[][] bad = {{-1, 0}, {2, 0}, {0, -1}, {0, 4}, {LOW, 0}, {HIGH, 0}, {0, LOW}, {0, HIGH}};
        for (int[] b : bad) due(10, "yards " + b[0] + " " + b[1], x.yards(b[0], b[1]), BAD);
    }

    private static void promise11() {
        SpunTales x = hearth(2, "000369");
        x.evening(0, 0, 9, 3);
        due(11, "use(0, 0, 2)", x.use(0, 0, 2), 1);
        due(11, "use(0, 0, 2)", x.use(0, 0, 2), NOT);
        due(11, "use(0, 0, 999)", x.use(0, 0, 999), NOT);
        due(11, "use(0, 0, 1)", x.use(0, 0, 1), 0);
        due(11, "use(0, 0, 1)", x.use(0, 0, 1), NOT);
        yardsDue(11, x, 0, 0, 1, 1, 1);
        yardsDue(11, x, 1, 3, 1, 1, 1);
        int[][] bad = {{0, 1, 0}, {0, 1, 1000}, {0, 1, -1}, {0, 4, 1}, {0, -1, 1}, {2, 1, 1}, {-1, 1, 1}, {0, 1, LOW}, {0, 1, HIGH}};
        for (int[] b : bad) due(11, "use " + b[0] + " " + b[1] + " " + b[2], x.use(b[0], b[1], b[2]), BAD);
        yardsDue(11, x, 0, 0, 1, 1, 1);
    }

    private static void promise12() {
        SpunTales x = hearth(2, "9", "99", "369");
        x.memory(2);
        for (int s : new int[] {-1, 2, LOW, HIGH}) due(12, "mind(" + s + ")", x.mind(s), BAD);
        due(12, "mind(0)", x.mind(0), 0);
        x.evening(0, 0, 9, 1);
        x.evening(1, 2, 9, 3);
        due(12, "mind(0)", x.mind(0), 5);
        due(12, "mind(1)", x.mind(1), 4);
        x.evening(0, 1, 1, 3);
        due(12, "one behind 2 evenings is not in mind", x.mind(0), 4);
        x.evening(0, 1, 1, 3);
        due(12, "told to its end in 2 evenings", x.mind(0), 2);
    }

    private static void promise13() {
        SpunTales x = hearth(3, "111", "22");
        int[] want = {2, 4, 3, 0, NONE, NONE, NONE};
        for (int what = 0; what < 7; what++) due(13, "count(" + what + ")", x.count(what), want[what]);
        for (int what : new int[] {-1, 7, LOW, HIGH}) due(13, "count(" + what + ")", x.count(what), BAD);
        x.evening(3, 1, 1, 0);
        int[] broken = {2, 4, 3, 1, 1, 3, 1};
        for (int what = 0; what < 7; what++) due(13, "count(" + what + ")", x.count(what), broken[what]);
        x.evening(3, 1, 1, 0);
        for (int what = 4; what < 7; what++) due(13, "count(" + what + ")", x.count(what), NONE);
        due(13, "count(3)", x.count(3), 2);
    }

    private static void promise14() {
        SpunTales x = hearth(3, "3690", "99");
        int[][] bad = {{-1, 0, 1, 1}, {4, 0, 1, 1}, {0, -1, 1, 1}, {0, 2, 1, 1}, {0, 0, 0, 1}, {0, 0, 10, 1}, {0, 0, 1, -1},
            {0, 0, 1, 8}, {0, 0, LOW, 1}, {0, 0, HIGH, 1}, {0, 0, 1, LOW}, {0, 0, 1, HIGH}};
        for (int[] b : bad) due(14, "evening " + b[0] + " " + b[1] + " " + b[2] + " " + b[3], x.evening(b[0], b[1], b[2], b[3]), BAD);
        due(14, "what is refused is no evening", x.count(3), 0);
        due(14, "broken off behind 2", x.evening(0, 0, 2, 3), 4);
        yardsDue(14, x, 1, 0, 1, 1, 0);
        due(14, "it goes on, up to its end", x.evening(0, 0, 9, 5), 4);
        yardsDue(14, x, 2, 1, 0, 0, 1);
        due(14, "all of it heard", x.mind(0), 1);
        due(14, "not its end", x.mind(1), 0);
        due(14, "not its beginning", x.mind(2), 0);
        due(14, "an empty set", x.evening(0, 0, 3, 0), 0);
        due(14, "by another teller it begins", x.evening(1, 0, 3, 1), 3);
        due(14, "by how many", x.count(6), 3);
        yardsDue(14, x, 0, 3, 2, 1, 1);
        due(14, "another tale", x.evening(1, 1, 1, 1), 1);
        due(14, "then the first is not broken off any more", x.evening(1, 0, 4, 2), 4);
        due(14, "so it began", x.mind(1), 1);
        due(14, "and nothing is broken off", x.count(4), NONE);
        brokenOffSets();
        mindAtTheEdge();
    }

    private static void brokenOffSets() {
        SpunTales x = hearth(2, "999");
        x.evening(0, 0, 1, 3);
        x.evening(0, 0, 1, 2);
        x.evening(0, 0, 1, 3);
        due(14, "who was away in between", x.mind(0), 0);
        due(14, "who was there in all", x.mind(1), 1);
        x.evening(3, 0, 9, 2);
        due(14, "8s in mind are PLAIN", x.yards(1, 1), 3);
    }

    private static void mindAtTheEdge() {
        SpunTales x = hearth(1, "9", "0");
        x.memory(1);
        x.evening(0, 0, 1, 1);
        x.evening(0, 0, 1, 1);
        yardsDue(14, x, 0, 0, 0, 1, 1);
        x.evening(0, 0, 1, 1);
        due(14, "told again it is in mind again", x.yards(0, 2), 2);
        x.evening(0, 1, 1, 1);
        x.evening(0, 0, 1, 1);
        due(14, "behind the memory it is LACE again", x.yards(0, 3), 2);
        x.evening(0, 0, 1, 0);
        x.evening(0, 1, 1, 1);
        x.evening(0, 1, 1, 1);
        due(14, "COARSE stays", x.yards(0, 0), 3);
    }

    private static void promise15() {
        SpunTales empty = new SpunTales();
        empty.spinner();
        due(15, "no tale", empty.store(0, 1, -1), NONE);
        due(15, "BAD is ahead of NONE", empty.store(0, 6, -1), BAD);
        SpunTales x = hearth(1, "6", "9", "333", "0");
        int[][] bad = {{-1, 1, 0}, {1, 1, 0}, {0, 0, -1}, {0, 6, 0}, {0, 1, -2}, {0, 1, 1}, {0, 5, 5}, {0, LOW, 0}, {0, HIGH, 0}, {0, 2, LOW}, {0, 2, HIGH}};
        for (int[] b : bad) due(15, "store " + b[0] + " " + b[1] + " " + b[2], x.store(b[0], b[1], b[2]), BAD);
        storeDue(x, 1, 3, 1);
        storeDue(x, 2, 6, 1, 2);
        storeDue(x, 4, 10, 0, 1, 1, 2);
        storeDue(x, 5, 12, 0, 1, 1, 1, 2);
        x.memory(1);
        storeDue(x, 3, 9, 1, 2, 1);
        x.evening(0, 1, 1, 1);
        storeDue(x, 3, 9, 2, 1, 2);
        due(15, "nothing is told by it", x.count(3), 1);
        due(15, "all 0", hearth(1, "0", "0").store(0, 3, -1), 0);
        due(15, "of like ones the first", hearth(1, "0", "0").store(0, 3, 2), 0);
    }

    private static void storeDue(SpunTales x, int n, int sum, int... row) {
        due(15, "store(0, " + n + ", -1)", x.store(0, n, -1), sum);
        for (int i = 0; i < n; i++) due(15, "store(0, " + n + ", " + i + ")", x.store(0, n, i), row[i]);
    }

    private static void promise16() {
        SpunTales x = hearth(1, "9306");
        int[][] due = {{1, 0, 1, 2}, {2, 0, 2, 2}, {4, 0, 4, 2}, {4, 1, -1, 2}, {2, 3, 2, 2}, {2, 4, -2, 2}, {3, 3, -1, 2}, {1, 9, 1, 2}, {2, 9, -2, 2}};
        for (int[] d : due) {
            due(16, "play(0, 0, " + d[0] + ", " + d[1] + ", 0)", x.play(0, 0, d[0], d[1], 0), d[2]);
            due(16, "play(0, 0, " + d[0] + ", " + d[1] + ", 1)", x.play(0, 0, d[0], d[1], 1), d[3]);
        }
        due(16, "as it is told", x.play(3, 0, 2, 1, 0), -2);
        due(16, "as it is told", x.play(3, 0, 1, 1, 1), 0);
        due(16, "as it is told by a DULL one", x.play(1, 0, 1, 9, 0), -3);
        int[][] bad = {{-1, 0, 1, 0, 0}, {4, 0, 1, 0, 0}, {0, -1, 1, 0, 0}, {0, 1, 1, 0, 0}, {0, 0, 0, 0, 0}, {0, 0, 5, 0, 0}, {0, 0, 1, -1, 0},
            {0, 0, 1, 10, 0}, {0, 0, 1, 0, -1}, {0, 0, 1, 0, 2}, {0, 0, LOW, 0, 0}, {0, 0, HIGH, 0, 0}};
        for (int[] b : bad) due(16, "play " + b[0] + b[1] + b[2] + b[3] + b[4], x.play(b[0], b[1], b[2], b[3], b[4]), -100001);
        x.evening(0, 0, 9, 1);
        due(16, "mind counts for nothing", x.play(0, 0, 1, 0, 1), 2);
    }

    private static void promise17() {
        SpunTales x = hearth(1, "9", "0", "39");
        due(17, "one sentence that may not be left", x.rests(0, 0, 0), 10);
        due(17, "from p 0 on", x.rests(0, 0, 1), 10);
        due(17, "one that is left from p 1 on", x.rests(0, 1, 0), 9);
        due(17, "p 1", x.rests(0, 1, 1), 11);
        due(17, "j 2 with p 0 .. 3", x.rests(0, 2, 0), 4 + 6);
        due(17, "as it is told: 29, one yard less", x.rests(1, 2, 1), 13);
        int[][] bad = {{-1, 0, 0}, {4, 0, 0}, {0, -1, 0}, {0, 3, 0}, {0, 0, -1}, {0, 0, 2}, {LOW, 0, 0}, {0, HIGH, 0}};
        for (int[] b : bad) due(17, "rests " + b[0] + " " + b[1] + " " + b[2], x.rests(b[0], b[1], b[2]), BAD);
    }

    private static void promise18and19() {
        SpunTales x = hearth(2, "369", "99");
        x.evening(1, 0, 2, 1);
        sheet(x, 0, 2, 1, 2);
        x.type('7', 1);
        due(18, "image()", x.image(), 1);
        x.evening(1, 0, 9, 3);
        x.evening(0, 1, 9, 3);
        x.change(0, 0, 9);
        x.memory(5);
        x.type('8', 1);
        sheet(x, 0, 1, 4);
        tale(x, "");
        due(19, "restore()", x.restore(), 1);
        int[] counts = {2, 4, 2, 1, 0, 1, 2};
        for (int what = 0; what < 7; what++) due(19, "count(" + what + ")", x.count(what), counts[what]);
        due(19, "told(0, 0)", x.told(0, 0), 3);
        due(19, "mind(0)", x.mind(0), 0);
        yardsDue(19, x, 0, 1, 1, 0, 0);
        yardsDue(19, x, 1, 0, 0, 0, 0);
        due(19, "memory(20)", x.memory(20), 20);
        due(19, "sheets are as they are", x.item(0, 1, 0, 4), 1);
        due(19, "the tape is as it is", x.type('9', 1), 1);
        due(19, "mid-tale: it goes on", x.evening(1, 0, 9, 1), 1);
        due(19, "told to its end", x.mind(0), 1);
        due(19, "again", x.restore(), 1);
        due(19, "again mid-tale, with another set", x.evening(1, 0, 9, 2), 1);
        due(19, "not told to its end", x.mind(1), 0);
        due(18, "a newer image", x.image(), 1);
        x.evening(0, 1, 1, 0);
        due(19, "restore()", x.restore(), 1);
        due(19, "it is the newer one", x.count(3), 2);
        brokenOffImage();
        SpunTales y = new SpunTales();
        y.image();
        y.teller(0);
        y.spinner();
        tale(y, "1");
        y.restore();
        for (int what = 0; what < 3; what++) due(19, "nobody again: count(" + what + ")", y.count(what), 0);
    }

    private static void brokenOffImage() {
        SpunTales x = hearth(2, "999", "6666");
        x.evening(0, 0, 2, 1);
        x.image();
        x.evening(1, 1, 3, 2);
        x.restore();
        int[] counts = {2, 4, 2, 1, 0, 0, 2};
        for (int what = 0; what < 7; what++) due(19, "mid-tale: count(" + what + ")", x.count(what), counts[what]);
        due(19, "mid-tale: it goes on", x.evening(0, 0, 9, 3), 2);
        due(19, "who heard the beginning", x.mind(0), 1);
        due(19, "who did not", x.mind(1), 0);
    }

    private static void coatDue(SpunTales x, int sheet, int lane, int i, int... row) {
        due(20, "coat -1", x.coat(0, sheet, lane, i, -1), row.length);
        for (int k = 0; k < 8; k++) due(20, "coat " + k, x.coat(0, sheet, lane, i, k), k < row.length ? row[k] : NONE);
    }

    private static void promise20() {
        SpunTales x = hearth(1, "369", "72", "0369", "9");
        sheet(x, 1, 0, 9, 0, 0, 0, 0, 1, 0, 0, 2);
        coatDue(x, 1, 0, 1);
        coatDue(x, 1, 0, 4, 0);
        coatDue(x, 1, 0, 5, 0, 20);
        due(20, "9 of 99", tale(x, "999999999"), 4);
        sheet(x, 2, 2, 0, 0, 0, 12);
        coatDue(x, 2, 2, 0, 0, 12, 20, 40);
        x.evening(0, 4, 9, 1);
        due(20, "in mind it holds no LACE", x.coat(0, 2, 2, 0, -1), NONE);
        sheet(x, 2, 2, 0, 0, 9, 0);
        coatDue(x, 2, 2, 0, 40);
        due(20, "what is had counts for nothing", x.yards(0, 3), 9);
        coatRefused(x);
        SpunTales none = new SpunTales();
        none.spinner();
        tale(none, "9");
        sheet(none, 0, 0, 0, 0, 0, 0, 1);
        coatDue(none, 0, 0, 0);
        due(20, "no teller", none.coat(0, 0, 0, 1, -1), NONE);
    }

    private static void coatRefused(SpunTales x) {
        int[][] bad = {{-1, 2, 2, 0, -1}, {1, 2, 2, 0, -1}, {0, -1, 2, 0, -1}, {0, 4, 2, 0, -1}, {0, 2, -1, 0, -1}, {0, 2, 3, 0, -1}, {0, 2, 2, 0, -2},
            {0, 2, 2, 0, 8}, {0, 3, 2, 0, 8}};
        for (int[] b : bad) due(20, "coat " + b[0] + " " + b[1] + " " + b[2] + " " + b[4], x.coat(b[0], b[1], b[2], b[3], b[4]), BAD);
        due(20, "NULL", x.coat(0, 3, 2, 99, -1), NULL);
        due(20, "CAST", x.coat(0, 2, 1, 99, -1), CAST);
        for (int i : new int[] {-1, 1, LOW, HIGH}) due(20, "INDEX", x.coat(0, 2, 2, i, -1), INDEX);
        x.item(2, 2, 3, 100);
        due(20, "100 wanted", x.coat(0, 2, 2, 0, -1), NOT);
        x.item(2, 2, 3, -1);
        due(20, "-1 wanted", x.coat(0, 2, 2, 0, 0), NOT);
        x.item(2, 2, 3, 99);
        due(20, "99 wanted", x.coat(0, 2, 2, 0, 0), NONE);
    }

    private static void promise21() {
        SpunTales x = hearth(1, "3", "36", "6", "4", "9");
        sheet(x, 0, 2, 1, 2, 1, 3, 0);
        int[][] due = {{0, 1, 2, 0, NONE}, {0, 2, 3, 0, 2}, {0, 3, 4, 0, 2}, {0, 4, 4, 0, 2}, {3, 1, 1, 4, NONE}, {3, 2, 0, NONE, NONE}};
        for (int[] d : due) {
            due(21, "read " + d[0] + " " + d[1] + " -1", x.read(0, 2, d[0], d[1], -1), d[2]);
            due(21, "read " + d[0] + " " + d[1] + " 0", x.read(0, 2, d[0], d[1], 0), d[3]);
            due(21, "read " + d[0] + " " + d[1] + " 1", x.read(0, 2, d[0], d[1], 1), d[4]);
        }
        due(21, "no 8th", x.read(0, 2, 0, 4, 7), NONE);
        due(21, "the last of it", x.read(0, 2, 0, 4, 3), 4);
        int[][] bad = {{-1, 2, 0, 1, -1}, {4, 2, 0, 1, -1}, {0, -1, 0, 1, -1}, {0, 3, 0, 1, -1}, {0, 2, 0, 0, -1}, {0, 2, 0, 17, -1}, {0, 2, 0, 1, -2},
            {0, 2, 0, 1, 8}, {0, 2, 0, LOW, -1}};
        for (int[] b : bad) due(21, "read", x.read(b[0], b[1], b[2], b[3], b[4]), BAD);
        refusedRow(21, (sheet, lane, i, n) -> x.read(sheet, lane, i, n, -1), x, 3);
        SpunTales dead = hearth(0, "3", "36", "9");
        sheet(dead, 0, 0, 1, 2, 3);
        due(21, "what fits at first may lead nowhere", dead.read(0, 0, 0, 3, 0), 1);
        due(21, "what fits at first may lead nowhere", dead.read(0, 0, 0, 3, 1), 2);
        SpunTales all = hearth(0, "0", "1", "2", "0", "1", "2", "0", "1");
        all.sheet(0, 0, 16);
        due(21, "8 of 8 in any order", all.read(0, 0, 0, 8, -1), 40320);
        due(21, "the first's last", all.read(0, 0, 0, 8, 7), 7);
        due(21, "no ninth tale", all.read(0, 0, 0, 9, -1), 0);
        SpunTales pairs = hearth(0, "00", "00", "00", "00", "00", "00", "00", "00");
        pairs.sheet(0, 0, 16);
        due(21, "16 sorts", pairs.read(0, 0, 0, 16, -1), 40320);
        due(21, "odd", pairs.read(0, 0, 0, 15, 0), NONE);
    }

    private interface OnRow {
        int answer(int sheet, int lane, int i, int n);
    }

    /** NULL, CAST, INDEX, NOT of a call that takes a row, in this order; sheet 3 holds nothing, sheet 1 is for this. */
    private static void refusedRow(int promise, OnRow call, SpunTales x, int most) {
        sheet(x, 1, 1, 0, 0, 0, most + 1);
        due(promise, "NULL", call.answer(3, 0, 99, 1), NULL);
        due(promise, "CAST", call.answer(1, 0, 99, 1), CAST);
        for (int i : new int[] {-1, 4, LOW, HIGH}) due(promise, "INDEX at " + i, call.answer(1, 1, i, 1), INDEX);
        due(promise, "INDEX is ahead of NOT", call.answer(1, 1, 2, 3), INDEX);
        due(promise, "NOT", call.answer(1, 1, 2, 2), NOT);
        x.item(1, 1, 3, -1);
        due(promise, "NOT", call.answer(1, 1, 3, 1), NOT);
        x.item(1, 1, 3, most);
        due(promise, "the highest", Math.min(0, call.answer(1, 1, 3, 1)), 0);
    }

    private static void promise22() {
        SpunTales x = hearth(0, "135", "24", "13", "245", "12", "34", "14", "23");
        sheet(x, 0, 0, 1, 2, 3, 4, 5, 0);
        due(22, "135 and 24; 13 and 245", x.untangle(0, 0, 0, 5, 0), 2);
        due(22, "the first", x.untangle(0, 0, 0, 5, 1), 1);
        due(22, "13 and 24", x.untangle(0, 0, 0, 4, 1), 21);
        due(22, "none", x.untangle(0, 0, 0, 6, 0), 0);
        due(22, "none", x.untangle(0, 0, 0, 6, 1), NONE);
        int[][] bad = {{-1, 0, 0, 1, 0}, {4, 0, 0, 1, 0}, {0, -1, 0, 1, 0}, {0, 3, 0, 1, 0}, {0, 0, 0, 0, 0}, {0, 0, 0, 17, 0}, {0, 0, 0, 1, -1}, {0, 0, 0, 1, 2}};
        for (int[] b : bad) due(22, "untangle", x.untangle(b[0], b[1], b[2], b[3], b[4]), BAD);
        refusedRow(22, (sheet, lane, i, n) -> x.untangle(sheet, lane, i, n, 0), x, 9);
        SpunTales y = hearth(0, "7", "7", "7777777");
        sheet(y, 2, 1, 7, 7, 7, 7, 7, 7, 7, 7);
        due(22, "each pair both ways", y.untangle(2, 1, 0, 8, 0), 4);
        due(22, "of two numbers that are told alike", y.untangle(2, 1, 0, 2, 0), 2);
        due(22, "the first", y.untangle(2, 1, 0, 8, 1), 2);
    }

    private static void promise23() {
        SpunTales x = hearth(0, "1357", "24", "999999999", "888888888");
        x.sheet(0, 0, 24);
        due(23, "tangle(0, 1)", x.tangle(0, 1, 0, 0, 2), 6);
        due(23, "nothing ahead", x.untangle(0, 0, 1, 6, 0), 0);
        due(23, "it is so", x.untangle(0, 0, 2, 6, 1), 1);
        tale(x, "12");
        tale(x, "3457");
        sheet(x, 1, 0, 1, 2, 3, 4, 5, 7);
        due(23, "as a row", x.untangle(1, 0, 0, 6, 1), 1);
        due(23, "18 items up to the end", x.tangle(2, 3, 0, 0, 6), 18);
        due(23, "18 items do not fit", x.tangle(2, 3, 0, 0, 7), INDEX);
        due(23, "the other first", x.tangle(1, 0, 1, 0, 0), 6);
        due(23, "the other first", x.untangle(1, 0, 0, 6, 1), 10);
        due(23, "INDEX changes nothing", x.tangle(0, 1, 1, 0, 1), INDEX);
        due(23, "INDEX changes nothing", x.untangle(1, 0, 0, 6, 1), 10);
        int[][] bad = {{-1, 1, 0, 0}, {6, 1, 0, 0}, {0, -1, 0, 0}, {0, 6, 0, 0}, {0, 0, 0, 0}, {0, 1, -1, 0}, {0, 1, 4, 0}, {0, 1, 0, -1}, {0, 1, 0, 3}};
        for (int[] b : bad) due(23, "tangle", x.tangle(b[0], b[1], b[2], b[3], 0), BAD);
        due(23, "NULL", x.tangle(0, 1, 3, 0, -1), NULL);
        due(23, "CAST", x.tangle(0, 1, 1, 2, -1), CAST);
        for (int i : new int[] {-1, LOW, HIGH}) due(23, "INDEX", x.tangle(0, 1, 1, 0, i), INDEX);
    }

    private static void promise24() {
        SpunTales x = hearth(0, "15", "0");
        sheet(x, 0, 2, 4, 0, 1, 5, 0);
        due(24, "15 by TURNED is 40", x.passed(0, 1, 0, 2, 0, 2, -1), 1);
        due(24, "by TURNED", x.passed(0, 1, 0, 2, 0, 2, 0), 3);
        due(24, "by 2: 03, 30", x.passed(0, 2, 0, 2, 0, 2, -1), 2);
        due(24, "the first", x.passed(0, 2, 0, 2, 0, 2, 0), 0);
        due(24, "the second", x.passed(0, 2, 0, 2, 0, 2, 1), 3);
        due(24, "by 3 TRUE", x.passed(0, 3, 0, 2, 2, 2, 2), 0);
        due(24, "of another length", x.passed(0, 3, 0, 2, 0, 3, -1), 0);
        due(24, "of another length", x.passed(0, 3, 0, 2, 0, 3, 0), NONE);
        due(24, "0 stays 0 by 3 of 4", x.passed(1, 3, 0, 2, 4, 1, -1), 27 + 4);
        int[][] bad = {{-1, 1, 0, 2, 0, 1, 0}, {2, 1, 0, 2, 0, 1, 0}, {0, 0, 0, 2, 0, 1, -1}, {0, 4, 0, 2, 0, 1, 0}, {0, 1, -1, 2, 0, 1, 0}, {0, 1, 4, 2, 0, 1, 0},
            {0, 1, 0, -1, 0, 1, 0}, {0, 1, 0, 3, 0, 1, 0}, {0, 1, 0, 2, 0, 0, 0}, {0, 1, 0, 2, 0, 10, 0}, {0, 1, 0, 2, 0, 1, -2}, {0, 1, 0, 2, 0, 1, 1},
            {0, 3, 0, 2, 0, 1, 3}};
        for (int[] b : bad) due(24, "passed", x.passed(b[0], b[1], b[2], b[3], b[4], b[5], b[6]), BAD);
        refusedRow(24, (sheet, lane, i, n) -> x.passed(1, 1, sheet, lane, i, n, -1), x, 9);
        SpunTales none = new SpunTales();
        tale(none, "0");
        none.sheet(0, 0, 1);
        due(24, "no teller", none.passed(0, 1, 0, 0, 0, 1, -1), 0);
        due(24, "no teller", none.passed(0, 1, 0, 0, 0, 1, 0), NONE);
    }

    private static void promise25() {
        SpunTales x = hearth(0, "0");
        int[][] bad = {{-1, 0, 1}, {4, 0, 1}, {0, -1, 1}, {0, 3, 1}, {0, 0, 25}, {0, 0, HIGH}, {4, 0, -1}, {0, 3, -1}};
        for (int[] b : bad) due(25, "sheet " + b[0] + " " + b[1] + " " + b[2], x.sheet(b[0], b[1], b[2]), BAD);
        due(25, "n -1", x.sheet(0, 0, -1), SIZE);
        due(25, "n far below 0", x.sheet(0, 0, LOW), SIZE);
        due(25, "nothing is there yet", x.drop(0), NULL);
        due(25, "none", x.sheet(0, 0, 0), 0);
        due(25, "24", x.sheet(0, 2, 24), 24);
        x.item(0, 2, 0, 3);
        due(25, "what is refused changes nothing", x.sheet(0, 2, -1), SIZE);
        due(25, "what is refused changes nothing", x.read(0, 2, 0, 1, -1), 0);
        due(25, "a new row is of 0", x.sheet(0, 2, 5), 5);
        due(25, "a new row is of 0", x.read(0, 2, 0, 1, -1), 1);
        due(25, "of so many", x.item(0, 2, 5, 0), INDEX);
        due(25, "of another lane", x.sheet(0, 1, 5), 5);
        due(25, "of another lane", x.item(0, 2, 0, 0), CAST);
    }

    private static void promise26() {
        SpunTales x = new SpunTales();
        for (int s : new int[] {-1, 4, LOW, HIGH}) due(26, "drop(" + s + ")", x.drop(s), BAD);
        due(26, "nothing", x.drop(3), NULL);
        x.sheet(3, 1, 24);
        x.sheet(2, 1, 0);
        due(26, "24", x.drop(3), 24);
        due(26, "it holds nothing", x.drop(3), NULL);
        due(26, "it holds nothing", x.item(3, 1, 0, 0), NULL);
        due(26, "an empty row is not nothing", x.drop(2), 0);
    }

    private static void promise27() {
        SpunTales x = hearth(0, "5", "9");
        int[][] bad = {{-1, 0}, {4, 0}, {0, -1}, {0, 3}, {LOW, LOW}, {HIGH, HIGH}};
        for (int[] b : bad) due(27, "item", x.item(b[0], b[1], 0, 0), BAD);
        due(27, "NULL", x.item(0, 0, -1, 0), NULL);
        long[] fives = {0x105L, 0x10005L, 0x100000005L};
        long[] minus = {0x85L, 0x8005L, 0x80000005L};
        for (int lane = 0; lane < 3; lane++) {
            x.sheet(lane, lane, 2);
            due(27, "CAST", x.item(lane, (lane + 1) % 3, -1, 0), CAST);
            for (int i : new int[] {-1, 2, LOW, HIGH}) due(27, "INDEX", x.item(lane, lane, i, 0), INDEX);
            due(27, "its lowest bits", x.item(lane, lane, 1, fives[lane]), 1);
            due(27, "its lowest bits", x.passed(0, 1, lane, lane, 1, 1, -1), 1);
            due(27, "the other one stays", x.read(lane, lane, 0, 1, -1), 0);
            due(27, "its highest bit", x.item(lane, lane, 1, minus[lane]), 1);
            due(27, "its highest bit", x.passed(0, 1, lane, lane, 1, 1, -1), NOT);
        }
        due(27, "a short is more than a byte", x.item(1, 1, 0, 0x105L), 1);
        due(27, "a short is more than a byte", x.passed(0, 1, 1, 1, 0, 1, -1), NOT);
        due(27, "an int is more than a short", x.item(2, 2, 0, 0x10005L), 1);
        due(27, "an int is more than a short", x.passed(0, 1, 2, 2, 0, 1, -1), NOT);
    }

    private static void promise28() {
        SpunTales x = hearth(0, "12345", "11234", "23455", "12312");
        sheet(x, 0, 1, 1, 2, 3, 4, 5);
        x.sheet(1, 1, 5);
        x.sheet(2, 2, 5);
        due(28, "all", x.copy(0, 0, 1, 0, 5), 5);
        due(28, "all", x.passed(0, 1, 1, 1, 0, 5, 0), 0);
        due(28, "forward in the same one", x.copy(0, 0, 0, 1, 4), 4);
        due(28, "forward in the same one", x.passed(1, 1, 0, 1, 0, 5, -1), 1);
        x.copy(1, 0, 0, 0, 5);
        due(28, "back in the same one", x.copy(0, 1, 0, 0, 4), 4);
        due(28, "back in the same one", x.passed(2, 1, 0, 1, 0, 5, -1), 1);
        x.copy(1, 0, 0, 0, 5);
        due(28, "a part", x.copy(1, 0, 0, 3, 2), 2);
        due(28, "a part", x.passed(3, 1, 0, 1, 0, 5, -1), 1);
        due(28, "none, at the ends", x.copy(0, 5, 1, 5, 0), 0);
        int[][] bad = {{-1, 0}, {4, 0}, {0, -1}, {0, 4}, {LOW, 0}, {0, HIGH}};
        for (int[] b : bad) due(28, "copy", x.copy(b[0], 0, b[1], 0, 1), BAD);
        due(28, "NULL", x.copy(0, -1, 3, 0, 1), NULL);
        due(28, "NULL", x.copy(3, 0, 2, -1, 1), NULL);
        due(28, "CAST", x.copy(0, -1, 2, 0, 1), CAST);
        int[][] index = {{-1, 0, 1}, {0, -1, 1}, {5, 0, 1}, {0, 5, 1}, {0, 0, 6}, {1, 0, 5}, {0, 1, 5}, {0, 0, -1}, {6, 0, 0}, {0, 6, 0},
            {LOW, 0, 1}, {HIGH, 0, 1}, {1, 1, HIGH}, {0, 0, LOW}, {HIGH, HIGH, HIGH}};
        for (int[] b : index) due(28, "copy(0, " + b[0] + ", 1, " + b[1] + ", " + b[2] + ")", x.copy(0, b[0], 1, b[1], b[2]), INDEX);
        due(28, "what is refused changes nothing", x.passed(0, 1, 1, 1, 0, 5, -1), 1);
    }

    public static void main(String[] args) {
        promise1();
        promise2();
        promise3();
        promise4();
        promise5();
        promise6();
        promise7();
        promise8();
        promise9();
        promise10();
        promise11();
        promise12();
        promise13();
        promise14();
        promise15();
        promise16();
        promise17();
        promise18and19();
        promise20();
        promise21();
        promise22();
        promise23();
        promise24();
        promise25();
        promise26();
        promise27();
        promise28();
        System.out.println(wrong == 0 ? "all promises are kept" : wrong + " answers are not as promised");
        if (wrong != 0) System.exit(1);
    }
}

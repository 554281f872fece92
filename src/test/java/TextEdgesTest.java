/**
 * Every sentence of the document that names an edge, for promises 1 to 17: TRAYS, the tape, texts.
 * A comment quotes the sentence whose edge is tried.
 */
public final class TextEdgesTest {

    private static final Kit KIT = Kit.start();
    private static final int[] WILD = {Integer.MIN_VALUE, Integer.MIN_VALUE + 1, -65536, -1};
    private static final int[] FAR = {1 << 30, Integer.MAX_VALUE - 1, Integer.MAX_VALUE};

    private TextEdgesTest() {
    }

    public static void main(String[] args) {
        newObject();
        trays();
        fourTrays();
        cuts();
        places();
        pours();
        poursRefused();
        tape();
        wholeTape();
        pressLengths();
        writingLengths();
        pressBytes();
        bytesBehindACell();
        wordLengths();
        numbers();
        signs();
        rulesAlike();
        fullTable();
        leastKind();
        endOfText();
        toldAndFault();
        ruleParts();
        drops();
        KIT.end("TextEdgesTest");
    }

    /** "A PRESS of no RULES (LINES of 32, PAGES of 25); nothing SET, no MARKS; an empty tape". */
    private static void newObject() {
        KIT.promise(1);
        RaisedPress x = new RaisedPress();
        KIT.refused(x, "rule(0, 0)", x.rule(0, 0), 1);
        KIT.refused(x, "drop(0, true)", x.drop(0, true), 1);
        KIT.refused(x, "writing(1) of an empty tape", x.writing(1), 1);
        KIT.told(x, "clear()", x.clear(), 1);
        KIT.refused(x, "onPage(0, 24, 31)", x.onPage(0, 24, 31), 6);
        KIT.refused(x, "onPage(0, 25, 31)", x.onPage(0, 25, 31), 1);
        KIT.refused(x, "onPage(0, 24, 32)", x.onPage(0, 24, 32), 1);
        KIT.told(x, "writing(0)", x.writing(0), 0);
        KIT.told(x, "press(0)", x.press(0), 0);
        KIT.refused(x, "size(0) behind press(0)", x.size(0), 6);
        // LINES of 32, PAGES of 25 without line and page: a PIECE of 33, then 26 LINES.
        RaisedPress y = Kit.written("rule a cells 1;", "a".repeat(32));
        KIT.due("size(1) of 32 CELLS", y.size(1), 1);
        Kit.writing(y, "a".repeat(33));
        KIT.due("size(1) of 33 CELLS", y.size(1), 2);
        KIT.due("line(0)", y.line(0), 32);
        RaisedPress z = Kit.written("rule a cells 1 1 1;", "a".repeat(266));
        KIT.due("size(1) of 798 CELLS", z.size(1), 25);
        KIT.due("size(2) of 25 LINES", z.size(2), 1);
        Kit.writing(z, "a".repeat(267));
        KIT.due("size(1) of 801 CELLS", z.size(1), 26);
        KIT.due("size(2) of 26 LINES", z.size(2), 2);
    }

    /** "TRAYS 0 to 3 .. rows of 0 to 60 numbers of 8 bits (sort 0), 16 (1), 32 (2) or 64 (3)". */
    private static void trays() {
        KIT.promise(5);
        for (int tray = -2; tray <= 5; tray++) {
            for (int sort = -2; sort <= 5; sort++) {
                for (int many : new int[] {-2, -1, 0, 1, 59, 60, 61, 62}) {
                    RaisedPress x = new RaisedPress();
                    boolean is = tray >= 0 && tray <= 3 && sort >= 0 && sort <= 3 && many >= 0
                        && many <= 60;
                    String call = "tray(" + tray + ", " + sort + ", " + many + ")";
                    KIT.due(call, x.tray(tray, sort, many), is);
                    KIT.due("status() of " + call, x.status(), is ? 0 : 1);
                }
            }
        }
        RaisedPress x = new RaisedPress();
        for (int[] row : new int[][] {WILD, FAR}) {
            for (int v : row) {
                KIT.refused(x, "tray(wild, 0, 1)", x.tray(v, 0, 1), 1);
                KIT.refused(x, "tray(0, wild, 1)", x.tray(0, v, 1), 1);
                KIT.refused(x, "tray(0, 0, wild)", x.tray(0, 0, v), 1);
            }
        }
        KIT.refused(x, "read(0, 0) of what was refused", x.read(0, 0), 2);
        // A row of 0 numbers is there: it is not MISSING.
        x.tray(0, 0, 0);
        KIT.refused(x, "read(0, 0) of an empty row", x.read(0, 0), 3);
        KIT.refused(x, "write(0, 0, 1) in an empty row", x.write(0, 0, 1), 3);
        // "A TRAY is a row of so many 0s": of what stood there ahead nothing is left.
        x.tray(0, 3, 60);
        for (int k = 0; k < 60; k++) {
            x.write(0, k, -1);
        }
        x.tray(0, 1, 3);
        x.tray(0, 3, 60);
        for (int k = 0; k < 60; k++) {
            KIT.told(x, "read(0, k)", x.read(0, k), 0);
        }
    }

    /** Four full TRAYS: none of their numbers is another one's. */
    private static void fourTrays() {
        KIT.promise(6);
        RaisedPress x = new RaisedPress();
        for (int t = 0; t < 4; t++) {
            x.tray(t, 2, 60);
        }
        for (int t = 3; t >= 0; t--) {
            for (int k = 0; k < 60; k++) {
                x.write(t, k, 100 * t + k);
            }
        }
        KIT.promise(7);
        RaisedPress y = x;
        for (int t = 0; t < 4; t++) {
            for (int k = 0; k < 60; k++) {
                KIT.due("read(" + t + ", " + k + ")", y.read(t, k), 100 * t + k);
            }
        }
    }

    /** "A number comes to a place of a TRAY, cut to its sort". */
    private static void cuts() {
        KIT.promise(6);
        long[] given = {0, 1, -1, 126, 127, 128, 255, 256, 257, -127, -128, -129, -256, 32766, 32767,
            32768, 65535, 65536, 65537, -32767, -32768, -32769, Integer.MAX_VALUE, 1L << 31,
            (1L << 32) - 1, 1L << 32, (1L << 32) + 1, Integer.MIN_VALUE, -(1L << 31) - 1,
            Long.MAX_VALUE, Long.MIN_VALUE};
        for (long v : given) {
            RaisedPress x = new RaisedPress();
            long[] due = {Math.floorMod(v + 128, 256L) - 128, Math.floorMod(v + 32768, 65536L) - 32768,
                Math.floorMod(v + (1L << 31), 1L << 32) - (1L << 31), v};
            for (int sort = 0; sort < 4; sort++) {
                x.tray(sort, sort, 2);
                KIT.told(x, "write(sort, 1, v)", x.write(sort, 1, v));
                // Long.MAX_VALUE + 128 goes over: all its low bits are 1.
                long want = v == Long.MAX_VALUE && sort < 3 ? -1 : due[sort];
                KIT.told(x, "read() of " + v + " in sort " + sort, x.read(sort, 1), want);
                KIT.told(x, "read() beside it", x.read(sort, 0), 0);
            }
        }
    }

    /** "3 a place that the TRAY has not": the first and the last place, and beside them. */
    private static void places() {
        RaisedPress x = new RaisedPress();
        for (int many : new int[] {1, 2, 59, 60}) {
            x.tray(0, 3, many);
            KIT.promise(6);
            KIT.told(x, "write(0, 0, 1)", x.write(0, 0, 1));
            KIT.told(x, "write(0, last, 2)", x.write(0, many - 1, 2));
            KIT.refused(x, "write(0, behind, 3)", x.write(0, many, 3), 3);
            KIT.refused(x, "write(0, -1, 3)", x.write(0, -1, 3), 3);
            KIT.promise(7);
            KIT.told(x, "read(0, last)", x.read(0, many - 1), 2);
            KIT.refused(x, "read(0, behind)", x.read(0, many), 3);
            KIT.refused(x, "read(0, -1)", x.read(0, -1), 3);
        }
        for (int v : FAR) {
            KIT.promise(6);
            KIT.refused(x, "write(0, far, 1)", x.write(0, v, 1), 3);
            KIT.refused(x, "write(far, 0, 1)", x.write(v, 0, 1), 1);
            KIT.promise(7);
            KIT.refused(x, "read(0, far)", x.read(0, v), 3);
            KIT.refused(x, "read(far, 0)", x.read(v, 0), 1);
        }
        for (int v : WILD) {
            KIT.promise(6);
            KIT.refused(x, "write(0, wild, 1)", x.write(0, v, 1), 3);
            KIT.refused(x, "write(wild, 0, 1)", x.write(v, 0, 1), 1);
            KIT.promise(7);
            KIT.refused(x, "read(0, wild)", x.read(0, v), 3);
            KIT.refused(x, "read(wild, 0)", x.read(v, 0), 1);
        }
        // "STATUS tells NONE from -1".
        x.write(0, 0, -1);
        KIT.told(x, "read() of -1", x.read(0, 0), -1);
        KIT.promise(6);
        KIT.refused(x, "write(4, -1, 1): 1 ahead of 3", x.write(4, -1, 1), 1);
        KIT.refused(x, "write(1, -1, 1): 2 ahead of 3", x.write(1, -1, 1), 2);
        KIT.promise(7);
        KIT.refused(x, "read(4, -1): 1 ahead of 3", x.read(4, -1), 1);
        KIT.refused(x, "read(1, 60): 2 ahead of 3", x.read(1, 60), 2);
    }

    /** "So many numbers of a TRAY .. come to another one's (or its own) place on, as they were". */
    private static void pours() {
        KIT.promise(8);
        for (int many = 0; many <= 60; many += 20) {
            for (int by = -20; by <= 20; by += 20) {
                int from = many == 60 ? 0 : 20;
                int at = many == 60 ? 0 : 20 + by;
                if (from + many > 60 || at + many > 60) {
                    continue;
                }
                for (int to = 0; to < 2; to++) {
                    pour(from, to, at, many);
                }
            }
        }
        // No numbers at all, of rows that have none, and behind the last place.
        RaisedPress x = new RaisedPress();
        x.tray(0, 1, 0);
        x.tray(1, 1, 0);
        KIT.told(x, "pour(0, 0, 1, 0, 0)", x.pour(0, 0, 1, 0, 0));
        KIT.told(x, "pour(0, 0, 0, 0, 0)", x.pour(0, 0, 0, 0, 0));
        KIT.refused(x, "pour(0, 0, 1, 0, 1)", x.pour(0, 0, 1, 0, 1), 3);
        KIT.refused(x, "pour(0, 1, 1, 0, 0)", x.pour(0, 1, 1, 0, 0), 3);
    }

    private static void pour(int from, int to, int at, int many) {
        RaisedPress x = new RaisedPress();
        long[] due = new long[60];
        for (int t = 0; t < 2; t++) {
            x.tray(t, 3, 60);
            for (int k = 0; k < 60; k++) {
                x.write(t, k, 1000L * t - k);
            }
        }
        for (int k = 0; k < 60; k++) {
            due[k] = k >= at && k < at + many ? -(from + k - at) : 1000L * to - k;
        }
        String call = "pour(0, " + from + ", " + to + ", " + at + ", " + many + ")";
        KIT.told(x, call, x.pour(0, from, to, at, many));
        for (int k = 0; k < 60; k++) {
            KIT.due(call + ", then read(" + to + ", " + k + ")", x.read(to, k), due[k]);
        }
    }

    /** "(1: below 0, too; 2; 8; 3; asked in this order)". */
    private static void poursRefused() {
        RaisedPress x = new RaisedPress();
        x.tray(0, 0, 5);
        x.tray(1, 1, 5);
        x.tray(2, 0, 5);
        int most = Integer.MAX_VALUE;
        int[][] ones = {{-1, 0, 0, 0, 0}, {4, 0, 0, 0, 0}, {0, 0, -1, 0, 0}, {0, 0, 4, 0, 0},
            {0, -1, 2, 0, 0}, {0, 0, 2, -1, 0}, {0, 0, 2, 0, -1}, {3, -1, 1, 0, 0},
            {0, 0, 3, -1, 9}, {0, 9, 1, 9, -1}, {4, 9, 3, 9, 9}, {most, 0, 0, 0, 0},
            {0, 0, Integer.MIN_VALUE, 0, 0}, {0, Integer.MIN_VALUE, 2, 0, 0},
            {0, 0, 2, Integer.MIN_VALUE, 0}, {0, 0, 2, 0, Integer.MIN_VALUE}};
        int[][] twos = {{3, 0, 0, 0, 1}, {0, 0, 3, 0, 1}, {3, 9, 3, 9, 9}, {3, 0, 1, 0, 9},
            {1, 9, 3, 0, 0}};
        int[][] eights = {{0, 0, 1, 0, 1}, {1, 0, 0, 0, 1}, {0, 9, 1, 0, 1}, {0, 0, 1, 9, 1},
            {0, 0, 1, 0, 6}, {0, 0, 1, 0, 0}};
        int[][] threes = {{0, 0, 2, 0, 6}, {0, 5, 2, 0, 1}, {0, 0, 2, 5, 1}, {0, 1, 2, 0, 5},
            {0, 0, 2, 1, 5}, {0, 6, 2, 0, 0}, {0, 0, 2, 6, 0}, {0, most, 2, 0, 1},
            {0, 1, 2, 0, most}, {0, 0, 2, 1, most}, {0, 0, 2, most, 1}, {0, most, 2, most, most},
            {0, 2, 0, 3, 3}, {0, 3, 0, 2, 3}};
        poursWith(x, ones, 1);
        poursWith(x, twos, 2);
        poursWith(x, eights, 8);
        poursWith(x, threes, 3);
    }

    private static void poursWith(RaisedPress x, int[][] calls, int status) {
        for (int[] c : calls) {
            KIT.refused(x, "pour(" + java.util.Arrays.toString(c) + ")",
                x.pour(c[0], c[1], c[2], c[3], c[4]), status);
        }
    }

    /** "Twenty bytes come behind those on the tape, the highest of each int first". */
    private static void tape() {
        KIT.promise(9);
        // Every byte in its place: spoilt one by one; what is left of a cut WORD can't stand there.
        String text = "rule abcd cells 55 ;";
        for (int k = 0; k < 20; k++) {
            StringBuilder s = new StringBuilder(text);
            s.setCharAt(k, (char) 200);
            RaisedPress x = new RaisedPress();
            KIT.refused(x, "press() of " + s, Kit.press(x, s.toString()), 9);
            boolean cutWord = k >= 1 && k <= 3 || k >= 11 && k <= 14;
            KIT.due("fault(0) of " + s, x.fault(0), cutWord ? 2 : 1);
        }
        // Every bit of a byte: the WRITING's FAULT is at the first byte that is not a blank.
        for (int b = 0; b < 256; b++) {
            RaisedPress x = new RaisedPress();
            x.feed(0x20202020, 0x20202000 | b, 0x20202020, 0x20202020, 0x20202020);
            KIT.due("writing() with byte " + b, x.writing(20), b == 32 || b == 10 ? 0 : -1);
            if (b != 32 && b != 10) {
                boolean letter = b >= 'a' && b <= 'z' || b >= 'A' && b <= 'Z';
                boolean digit = b >= '0' && b <= '9';
                KIT.due("fault(0) of byte " + b, x.fault(0), letter ? 3 : digit ? 4 : 1);
                KIT.due("fault(1) of byte " + b, x.fault(1), 7);
            }
        }
    }

    /** "NONE if there would be more than 900"; "(which is empty then)". */
    private static void wholeTape() {
        KIT.promise(9);
        RaisedPress x = new RaisedPress();
        for (int k = 1; k <= 45; k++) {
            KIT.due("feed()", x.feed(0x20202020, 0x20202020, 0x20202020, 0x20202020, 0x0a0a0a0a),
                20 * k);
        }
        for (int k = 0; k < 3; k++) {
            KIT.due("feed() more than 900", x.feed(-1, -1, -1, -1, -1), -1);
        }
        KIT.due("status() has none of feed()", x.status(), 0);
        KIT.promise(10);
        KIT.told(x, "press(900): nothing came behind", x.press(900), 0);
        KIT.promise(9);
        KIT.due("feed() on the empty tape", x.feed(0, 0, 0, 0, 0), 20);
        for (int k = 2; k <= 45; k++) {
            x.feed(0, 0, 0, 0, 0);
        }
        x.writing(0);
        KIT.due("feed() behind writing(0)", x.feed(0, 0, 0, 0, 0), 20);
        x.press(0);
        KIT.due("feed() behind press(0)", x.feed(0, 0, 0, 0, 0), 20);
    }

    /** "(1: n below 0, or more than the tape has, too; 9: the old one stays)". */
    private static void pressLengths() {
        KIT.promise(10);
        for (int n : new int[] {Integer.MIN_VALUE, -1, 21, 900, 901, Integer.MAX_VALUE}) {
            RaisedPress x = Kit.pressed("rule b cells 2;");
            Kit.feed(x, "rule a cells 1;     ");
            KIT.refused(x, "press(" + n + ")", x.press(n), 1);
            KIT.told(x, "letter(0, 0) of the old one", x.letter(0, 0), 2);
            KIT.told(x, "press(20) of what stayed on the tape", x.press(20), 1);
            KIT.told(x, "letter(0, 0)", x.letter(0, 0), 1);
        }
        String text = "rule a cells 1;     ";
        for (int n = 0; n <= 20; n++) {
            RaisedPress x = new RaisedPress();
            Kit.feed(x, text);
            int due = n == 0 ? 0 : n < 15 ? -1 : 1;
            KIT.due("press(" + n + ")", x.press(n), due);
            KIT.due("status() of press(" + n + ")", x.status(), due < 0 ? 9 : 0);
            KIT.refused(x, "press(1) of the tape, empty then", x.press(1), 1);
        }
    }

    /** "Likewise the WRITING .. (1: above 300, too; 9)". */
    private static void writingLengths() {
        KIT.promise(11);
        for (int n : new int[] {Integer.MIN_VALUE, -1, 301, 319, 320, 321, Integer.MAX_VALUE}) {
            RaisedPress x = Kit.pressed("rule a cells 1;");
            Kit.feed(x, "a".repeat(320));
            KIT.refused(x, "writing(" + n + ")", x.writing(n), 1);
            KIT.refused(x, "size(0)", x.size(0), 6);
            KIT.told(x, "writing(300)", x.writing(300), 300);
        }
        RaisedPress x = Kit.pressed("rule a cells 1;");
        Kit.feed(x, "a".repeat(280));
        KIT.refused(x, "writing(281)", x.writing(281), 1);
        KIT.refused(x, "writing(300) of 280", x.writing(300), 1);
        KIT.told(x, "writing(280)", x.writing(280), 280);
        KIT.refused(x, "writing(1)", x.writing(1), 1);
        KIT.told(x, "writing(0) of an empty tape", x.writing(0), 0);
        for (int n : new int[] {0, 1, 299, 300}) {
            Kit.feed(x, "a".repeat(300));
            KIT.told(x, "writing(" + n + ")", x.writing(n), n);
        }
    }

    private static void press(String text, int kind, int place) {
        RaisedPress x = new RaisedPress();
        int rules = Kit.press(x, text);
        KIT.due("fault(0) of " + text, x.fault(0), kind);
        KIT.due("fault(1) of " + text, x.fault(1), place);
        KIT.due("status() of " + text, x.status(), kind == 0 ? 0 : 9);
        KIT.due("told(0) of " + text, x.told(0), kind == 0 ? rules : 0);
    }

    /** "1 no TOKEN begins so": small letters, digits, ; and blanks (10, 32) aside. */
    private static void pressBytes() {
        KIT.promise(10);
        for (int b = 0; b < 256; b++) {
            boolean blank = b == 10 || b == 32;
            boolean begins = b >= 'a' && b <= 'z' || b >= '0' && b <= '9' || b == ';';
            String byteAlone = String.valueOf((char) b);
            press(byteAlone, blank ? 0 : begins ? 2 : 1, blank ? -1 : 0);
            press("rule a cells 1;" + byteAlone, blank ? 0 : begins ? 2 : 1, blank ? -1 : 15);
        }
    }

    private static void bytesBehindACell() {
        KIT.promise(10);
        for (int b = 0; b < 256; b++) {
            String text = "rule a cells 1" + (char) b;
            if (b == ';') {
                press(text, 0, -1);
            } else if (b == 10 || b == 32 || b >= '0' && b <= '9') {
                // The end of the text: the NUMBER has two digits, or a blank follows.
                press(text, 2, 15);
            } else {
                press(text, b >= 'a' && b <= 'z' ? 2 : 1, 14);
            }
        }
    }

    /** "LETTERS: any WORD of 1 to 6 letters"; "a WORD of 7 letters and more where LETTERS must stand". */
    private static void wordLengths() {
        KIT.promise(10);
        for (int many = 1; many <= 9; many++) {
            String word = "zyxwvutsr".substring(0, many);
            press("rule " + word + " cells 1;", many <= 6 ? 0 : 2, many <= 6 ? -1 : 5);
        }
        press("rule " + "a".repeat(800) + " cells 1;", 2, 5);
        for (String word : new String[] {"rule", "cells", "begin", "middle", "end", "alone", "line",
            "page", "number", "hyphen"}) {
            press("rule " + word + " cells 1;", 0, -1);
        }
        press("rule capital cells 1;", 2, 5);
    }

    /** "NUMBERS (1 to 4 digits)"; "a NUMBER of 5 digits and more: at its first". */
    private static void numbers() {
        KIT.promise(10);
        String[] taken = {"1", "01", "001", "0001", "63", "063", "0063", "9"};
        for (String number : taken) {
            press("rule a cells " + number + ";", 0, -1);
        }
        String[] cannot = {"0", "00", "000", "0000", "64", "064", "0064", "640", "6400", "9999", "1000"};
        for (String number : cannot) {
            press("rule a cells " + number + ";", 4, 13);
            press("rule a cells 1 " + number + ";", 4, 15);
            press("rule a cells 1 2 " + number + ";", 4, 17);
        }
        for (String number : new String[] {"00001", "12345", "99999", "123456", "4294967297"}) {
            press("rule a cells " + number + ";", 1, 13);
            press("rule a cells 1 " + number, 1, 15);
            press("line " + number + ";", 1, 5);
            press(number, 1, 0);
        }
        for (int cell = 0; cell <= 70; cell++) {
            RaisedPress x = new RaisedPress();
            int rules = Kit.press(x, "rule a cells " + cell + " " + cell + " " + cell + ";");
            boolean is = cell >= 1 && cell <= 63;
            KIT.due("press() with CELL " + cell, rules, is ? 1 : -1);
            for (int k = 0; is && k < 3; k++) {
                KIT.due("cellOf(0, k)", x.cellOf(0, k), cell);
            }
        }
    }

    /** "how many CELLS a LINE has (4 to 40; 32 without), how many LINES a PAGE (2 to 30; 25 without)". */
    private static void signs() {
        String[] names = {"capital", "number", "hyphen", "line", "page"};
        int[] least = {1, 1, 1, 4, 2};
        int[] most = {63, 63, 63, 40, 30};
        int[] without = {-1, -1, -1, 32, 25};
        for (int s = 0; s < 5; s++) {
            for (int v = 0; v <= 70; v++) {
                String text = names[s] + " " + v + ";";
                boolean is = v >= least[s] && v <= most[s];
                KIT.promise(10);
                press(text, is ? 0 : 4, is ? -1 : names[s].length() + 1);
                KIT.promise(13);
                RaisedPress x = Kit.pressed(text);
                KIT.due("told() behind " + text, x.told(s + 1), is ? v : without[s]);
            }
            KIT.promise(10);
            press(names[s] + " " + least[s] + "0000;", 1, names[s].length() + 1);
            press(names[s] + " " + most[s] + ";" + names[s] + " " + most[s] + ";", 5,
                names[s].length() + 4);
            // Told already, and nothing behind it: the FAULT is at the WORD.
            press(names[s] + " " + most[s] + ";" + names[s], 5, names[s].length() + 4);
        }
    }

    /** "no two have the same LETTERS and the same COND"; "3 a RULE that is there already (at what ends it)". */
    private static void rulesAlike() {
        KIT.promise(10);
        String[] conds = {"", " begin", " middle", " end", " alone"};
        for (String a : conds) {
            for (String b : conds) {
                String text = "rule ab cells 1" + a + ";rule ab cells 1" + b;
                press(text + ";", a.equals(b) ? 3 : 0, a.equals(b) ? text.length() : -1);
                press(text + " \n;", a.equals(b) ? 3 : 0, a.equals(b) ? text.length() + 2 : -1);
            }
        }
        press("rule ab cells 1;rule abc cells 1;rule a cells 1;rule ba cells 1;", 0, -1);
        press("rule abcdef cells 1;rule abcdeg cells 1;rule bbcdef cells 1;", 0, -1);
        press("rule abcdef cells 1;rule abcdef cells 2 3;", 3, 41);
        // What ends it stands ahead of it: a fourth CELL comes first, the text's end too.
        press("rule a cells 1;rule a cells 1 2 3 4;", 5, 34);
        press("rule a cells 1;rule a cells 1", 2, 29);
    }

    private static String rules(int many) {
        StringBuilder s = new StringBuilder();
        for (int k = 0; k < many; k++) {
            s.append("rule ").append((char) ('a' + k)).append(" cells ").append(k + 1).append(";");
        }
        return s.toString();
    }

    /** "RULES, at most 24"; "6 a 25th rule (at that WORD)". */
    private static void fullTable() {
        KIT.promise(10);
        for (int many = 0; many <= 26; many++) {
            String text = rules(many);
            press(text, many <= 24 ? 0 : 6, many <= 24 ? -1 : rules(24).length());
        }
        press(rules(24) + "rule a", 6, rules(24).length());
        press(rules(24) + "rule a cells 1;", 6, rules(24).length());
        press(rules(24) + " \nrule", 6, rules(24).length() + 2);
        press(rules(24) + "capital 1;number 2;hyphen 3;line 4;page 5;", 0, -1);
        press(rules(24) + "rul", 2, rules(24).length());
        press(rules(24) + "#rule", 1, rules(24).length());
        // The 24th is a RULE that is there already: no 25th.
        press(rules(23) + "rule a cells 1;", 3, rules(23).length() + 14);
        RaisedPress x = Kit.pressed(rules(24));
        for (int r = 0; r < 24; r++) {
            KIT.told(x, "letter(r, 0)", x.letter(r, 0), r + 1);
            KIT.told(x, "cellOf(r, 0)", x.cellOf(r, 0), r + 1);
        }
        KIT.refused(x, "letter(24, 0)", x.letter(24, 0), 1);
    }

    /** "FAULTS, the first along the text (of one TOKEN the least kind)". */
    private static void leastKind() {
        KIT.promise(10);
        press("rule a cells 1 2 3 0;", 4, 19);
        press("rule a cells 1 2 3 63;", 5, 19);
        press("rule a cells 1 2 3 9999;", 4, 19);
        press("rule a cells 1 2 3 00001;", 1, 19);
        press("rule a cells 1 2 3 begin;", 0, -1);
        press("rule a cells 1 2 3 begin 4;", 2, 25);
        press("rule a cells 64 64 64 64;", 4, 13);
        press("line 3;line 3;", 4, 5);
        press("capital 1;capital", 5, 10);
        press("capital 1 capital 1;", 2, 10);
        press("capital 1;rule capital", 2, 15);
        press("rule a cells 1 rule b cells 1;", 2, 15);
        press("rule a cells 1 A", 1, 15);
        press("rule A", 1, 5);
    }

    /** "2 it can't stand there (the end: the text's length)": every text that is cut off. */
    private static void endOfText() {
        KIT.promise(10);
        String whole = "rule ab cells 12 34 56 middle;hyphen 63;";
        for (int n = 0; n < whole.length(); n++) {
            RaisedPress x = new RaisedPress();
            Kit.feed(x, whole);
            boolean is = n == 0 || n == 30;
            KIT.due("press(" + n + ")", x.press(n), is ? n / 30 : -1);
            // A part of a WORD of the language can't stand there itself.
            int place = is ? -1 : cutPlace(whole, n);
            KIT.due("fault(0) of press(" + n + ")", x.fault(0), is ? 0 : 2);
            KIT.due("fault(1) of press(" + n + ")", x.fault(1), place);
        }
    }

    private static int cutPlace(String whole, int n) {
        int from = n;
        while (from > 0 && Character.isLetter(whole.charAt(from - 1))) {
            from--;
        }
        boolean cut = n < whole.length() && from < n && Character.isLetter(whole.charAt(n));
        boolean letters = from == 5;
        return cut && !letters ? from : n;
    }

    /** "NONE for others, and ahead of any"; told(): "(1)". */
    private static void toldAndFault() {
        RaisedPress x = Kit.pressed("capital 9;rule a cells 1#");
        KIT.promise(12);
        for (int what : new int[] {Integer.MIN_VALUE, -1, 2, 3, Integer.MAX_VALUE}) {
            KIT.due("fault(" + what + ")", x.fault(what), -1);
        }
        KIT.due("status() has none of fault()", x.status(), 9);
        KIT.due("fault(0)", x.fault(0), 1);
        KIT.due("fault(1)", x.fault(1), 24);
        // A place 0 is told, too, and NONE without a FAULT.
        Kit.press(x, "#");
        KIT.due("fault(1)", x.fault(1), 0);
        x.writing(0);
        KIT.due("fault(0) behind writing(0)", x.fault(0), 0);
        KIT.due("fault(1) behind writing(0)", x.fault(1), -1);
        Kit.writing(x, "#");
        KIT.due("fault(0) behind a WRITING", x.fault(0), 1);
        KIT.due("fault(1) behind a WRITING", x.fault(1), 0);
        Kit.press(x, "capital 1;");
        KIT.due("fault(0) behind press() with STATUS 0", x.fault(0), 0);
        KIT.due("fault(1) behind press() with STATUS 0", x.fault(1), -1);
        KIT.promise(13);
        for (int what : new int[] {Integer.MIN_VALUE, -1, 7, 8, Integer.MAX_VALUE}) {
            KIT.refused(x, "told(" + what + ")", x.told(what), 1);
        }
    }

    /** rule(): "(1)", letter(), cellOf(): "(1; 6)". */
    private static void ruleParts() {
        RaisedPress x = Kit.pressed("rule abcdef cells 1 2 3 end;rule g cells 4;");
        for (int v : new int[] {Integer.MIN_VALUE, -1, 2, 24, 32, 64, Integer.MAX_VALUE}) {
            KIT.promise(14);
            KIT.refused(x, "rule(" + v + ", 0)", x.rule(v, 0), 1);
            KIT.promise(15);
            KIT.refused(x, "letter(" + v + ", 0)", x.letter(v, 0), 1);
            KIT.refused(x, "letter(" + v + ", 6): 1 ahead of 6", x.letter(v, 6), 1);
            KIT.promise(16);
            KIT.refused(x, "cellOf(" + v + ", 0)", x.cellOf(v, 0), 1);
            KIT.refused(x, "cellOf(" + v + ", 3): 1 ahead of 6", x.cellOf(v, 3), 1);
        }
        for (int v : new int[] {Integer.MIN_VALUE, -1, 6, 7, Integer.MAX_VALUE}) {
            KIT.promise(14);
            KIT.refused(x, "rule(0, " + v + ")", x.rule(0, v), 1);
            KIT.promise(15);
            KIT.refused(x, "letter(0, " + v + ")", x.letter(0, v), 6);
            KIT.promise(16);
            KIT.refused(x, "cellOf(0, " + v + ")", x.cellOf(0, v), 6);
        }
        KIT.promise(15);
        KIT.told(x, "letter(0, 5)", x.letter(0, 5), 6);
        KIT.refused(x, "letter(1, 1): the next RULE's", x.letter(1, 1), 6);
        KIT.promise(16);
        KIT.told(x, "cellOf(0, 2)", x.cellOf(0, 2), 3);
        KIT.refused(x, "cellOf(0, 3): the next RULE's", x.cellOf(0, 3), 6);
        KIT.refused(x, "cellOf(1, 1)", x.cellOf(1, 1), 6);
    }

    /** "A RULE is DROPPED (false: is there again) .. (1)": the set of 24, and no bit beside it. */
    private static void drops() {
        KIT.promise(17);
        RaisedPress x = Kit.pressed(rules(24));
        for (int r = 0; r < 24; r++) {
            KIT.told(x, "drop(r, true)", x.drop(r, true));
            KIT.told(x, "told(6)", x.told(6), (1 << (r + 1)) - 1);
        }
        for (int v : new int[] {Integer.MIN_VALUE, -1, 24, 31, 32, 33, 55, 56, Integer.MAX_VALUE}) {
            KIT.refused(x, "drop(" + v + ", false)", x.drop(v, false), 1);
            KIT.refused(x, "drop(" + v + ", true)", x.drop(v, true), 1);
            KIT.told(x, "told(6)", x.told(6), (1 << 24) - 1);
        }
        KIT.told(x, "lacks() with all DROPPED", x.lacks(), (1 << 26) - 1);
        for (int r = 0; r < 24; r++) {
            KIT.told(x, "drop(r, false)", x.drop(r, false));
            KIT.told(x, "drop(r, false) again", x.drop(r, false));
            KIT.told(x, "told(6)", x.told(6), (1 << 24) - (1 << (r + 1)));
        }
        // Its number stays.
        x.drop(3, true);
        KIT.told(x, "letter(4, 0)", x.letter(4, 0), 5);
        KIT.told(x, "letter(3, 0) of the DROPPED one", x.letter(3, 0), 4);
        // A PRESS more: none is DROPPED.
        Kit.press(x, rules(5));
        KIT.told(x, "told(6) of the new PRESS", x.told(6), 0);
        KIT.refused(x, "drop(5, true)", x.drop(5, true), 1);
    }
}

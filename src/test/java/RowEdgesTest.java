/**
 * Every sentence of the document that names an edge, for ROWS, the table, dots that wear off and
 * MARKS (promises 48 to 67). A comment quotes the sentence whose edge is tried.
 */
public final class RowEdgesTest {

    private static final Kit KIT = Kit.start();
    private static final int[] WILD = {Integer.MIN_VALUE, -21, -2, -1};
    private static final int[] FAR = {1 << 30, Integer.MAX_VALUE - 1, Integer.MAX_VALUE};

    private interface Ask {
        int of(RaisedPress x, int tray, int many);
    }

    private RowEdgesTest() {
    }

    public static void main(String[] args) {
        rowNumbers();
        rowContents();
        rowSorts();
        rowOrder();
        mostWays();
        condsOfReadings();
        firstReading();
        firstStays();
        trueOnes();
        failedNumbers();
        failedDots();
        mirrors();
        turnedOnes();
        couples();
        clearOnes();
        lacking();
        draws();
        wornPlaces();
        seeds();
        marks();
        KIT.end("RowEdgesTest");
    }

    private static final Ask WAYS = (x, t, n) -> x.ways(t, n);
    private static final Ask FIRST = (x, t, n) -> x.first(t, n);
    private static final Ask TRUTHS = (x, t, n) -> x.truths(t, n);
    private static final Ask FAILED = (x, t, n) -> x.failed(t, 3, n);
    private static final Ask FAILED_DOTS = (x, t, n) -> x.failed(3, t, n);

    private static void row(RaisedPress x, int tray, int sort, long... numbers) {
        x.tray(tray, sort, numbers.length);
        for (int k = 0; k < numbers.length; k++) {
            x.write(tray, k, numbers[k]);
        }
    }

    private static long[] all(int many, int cell) {
        long[] cells = new long[many];
        java.util.Arrays.fill(cells, cell);
        return cells;
    }

    private static void each(Task task) {
        task.of(48, "ways", WAYS);
        task.of(49, "first", FIRST);
        task.of(52, "truths", TRUTHS);
        task.of(53, "failed, the ROW", FAILED);
        task.of(53, "failed, the dots", FAILED_DOTS);
    }

    private interface Task {
        void of(int promise, String name, Ask ask);
    }

    /** A PRESS of one RULE; TRAY 3 is a ROW that can be read, and good for dots, too. */
    private static RaisedPress single() {
        RaisedPress x = Kit.pressed("rule a cells 1;");
        row(x, 3, 2, all(60, 1));
        return x;
    }

    /** "the first so many (1 to 20) numbers of a TRAY (1; 2; 3; ..)". */
    private static void rowNumbers() {
        each((promise, name, ask) -> {
            KIT.promise(promise);
            RaisedPress x = single();
            row(x, 0, 2, all(60, 1));
            for (int many = 1; many <= 20; many++) {
                boolean told = ask.of(x, 0, many) >= 1;
                KIT.due(name + " of " + many, told, true);
                KIT.due("status()", x.status(), 0);
            }
            for (int v : new int[] {0, 21, 22, 60, 61}) {
                KIT.refused(x, name + " of " + v, ask.of(x, 0, v), 1);
            }
            for (int[] wild : new int[][] {WILD, FAR}) {
                for (int v : wild) {
                    KIT.refused(x, name + " of " + v, ask.of(x, 0, v), 1);
                    KIT.refused(x, name + " of TRAY " + v, ask.of(x, v, 1), 1);
                }
            }
            KIT.refused(x, name + " of TRAY 4", ask.of(x, 4, 1), 1);
            KIT.refused(x, name + " of TRAY 1, MISSING", ask.of(x, 1, 1), 2);
            for (int size = 0; size <= 20; size++) {
                x = single();
                row(x, 0, 0, all(size, 1));
                for (int many = Math.max(1, size); many <= Math.min(20, size + 1); many++) {
                    int got = ask.of(x, 0, many);
                    KIT.due(name + " of " + many + " in a TRAY of " + size, got >= 1, many <= size);
                    KIT.due("status()", x.status(), many <= size ? 0 : 3);
                }
            }
        });
    }

    /** "5: no CELL": each of the first so many, and none behind them. */
    private static void rowContents() {
        each((promise, name, ask) -> {
            KIT.promise(promise);
            boolean dots = ask == FAILED_DOTS;
            long[] bad = {-1, 64, 65, 127, 1000, Long.MIN_VALUE, Long.MAX_VALUE, (1L << 32) + 1};
            for (int at = 0; at < 21; at++) {
                RaisedPress x = single();
                row(x, 0, 3, all(21, 1));
                for (long v : bad) {
                    x.write(0, at, v);
                    int got = ask.of(x, 0, 20);
                    KIT.due(name + " with " + v + " at " + at, got == -1, at < 20);
                    KIT.due("status()", x.status(), at < 20 ? 5 : 0);
                }
                x.write(0, at, 0);
                KIT.due(name + " with 0 at " + at, ask.of(x, 0, 20) == -1, at < 20 && !dots);
                x.write(0, at, 63);
                ask.of(x, 0, 20);
                KIT.due("status() of " + name + " with 63", x.status(),
                    ask == FIRST && at < 20 ? 6 : 0);
            }
        });
    }

    /** Of every sort: what was cut to a CELL is one. */
    private static void rowSorts() {
        each((promise, name, ask) -> {
            KIT.promise(promise);
            RaisedPress x = single();
            long[] over = {(1L << 8) + 1, (1L << 16) + 1, (1L << 32) + 1};
            for (int sort = 0; sort < 4; sort++) {
                for (int k = 0; k < 3; k++) {
                    row(x, 0, sort, over[k]);
                    boolean cell = sort <= k;
                    KIT.due(name + " of " + over[k] + " in sort " + sort, ask.of(x, 0, 1) == -1,
                        !cell);
                    KIT.due("status()", x.status(), cell ? 0 : 5);
                }
            }
            // 200 in 8 bits is below 0.
            row(x, 0, 0, 200);
            KIT.refused(x, name + " of 200 in 8 bits", ask.of(x, 0, 1), 5);
        });
    }

    /** "(1; 2; 3; 5 ..; asked in this order)". */
    private static void rowOrder() {
        each((promise, name, ask) -> {
            KIT.promise(promise);
            RaisedPress x = single();
            KIT.refused(x, name + ": 1 ahead of 2", ask.of(x, 0, 21), 1);
            KIT.refused(x, name + ": 2 ahead of 3", ask.of(x, 0, 20), 2);
            row(x, 0, 2, 64, 64);
            KIT.refused(x, name + ": 1 ahead of 3", ask.of(x, 0, 21), 1);
            KIT.refused(x, name + ": 3 ahead of 5", ask.of(x, 0, 3), 3);
            KIT.refused(x, name + ": 5", ask.of(x, 0, 2), 5);
            KIT.refused(x, name + ": 1 ahead of 5", ask.of(x, 0, 0), 1);
        });
        KIT.promise(49);
        RaisedPress x = single();
        row(x, 0, 2, 2, 64);
        KIT.refused(x, "first(): 5 ahead of 6", x.first(0, 2), 5);
        KIT.refused(x, "first(): 6", x.first(0, 1), 6);
    }

    /** "how many READINGS (999,999 at most)"; "7: above 9,999 WAYS". */
    private static void mostWays() {
        KIT.promise(48);
        // Runs of CELL 1 have 3, 11, 39 READINGS, of CELL 2 6, 37, one of CELL 3 7, one of CELL 4 one.
        StringBuilder s = new StringBuilder();
        String letters = "abcdefghijklmnopqrst";
        String[] cells = {"1", "1", "1", "1 1", "1 1", "2", "2", "2", "2", "2", "2", "2 2", "3", "3",
            "3", "3", "3", "3", "3", "4"};
        for (int k = 0; k < cells.length; k++) {
            s.append("rule ").append(letters.charAt(k)).append(" cells ").append(cells[k]).append(";");
        }
        RaisedPress x = Kit.pressed(s.toString());
        row(x, 0, 0, 1, 1, 1, 3, 1, 1, 2, 2, 1, 4, 1, 3);
        int[] due = {3, 11, 39, 273, 819, 3003, 18018, 111111, 333333, 333333, 999999, 999999};
        for (int many = 1; many <= 12; many++) {
            KIT.told(x, "ways() of " + many, x.ways(0, many), due[many - 1]);
        }
        KIT.promise(52);
        for (int many = 1; many <= 12; many++) {
            if (due[many - 1] > 9999) {
                KIT.refused(x, "truths() of " + due[many - 1], x.truths(0, many), 7);
            } else {
                // All RULES are just one letter, so every READING is TRUE.
                KIT.told(x, "truths() of " + due[many - 1], x.truths(0, many), due[many - 1]);
            }
        }
        KIT.promise(53);
        row(x, 1, 0, all(12, 0));
        for (int many = 1; many <= 12; many++) {
            KIT.told(x, "failed() of " + many, x.failed(0, 1, many), due[many - 1]);
        }
        // Without a READING at all, though there are many of its parts.
        KIT.promise(48);
        x.write(0, 11, 9);
        KIT.told(x, "ways() with no end", x.ways(0, 12), 0);
        x.write(0, 11, 3);
        x.write(0, 0, 9);
        KIT.told(x, "ways() with no beginning", x.ways(0, 12), 0);
        KIT.promise(52);
        KIT.told(x, "truths() of no READING", x.truths(0, 12), 0);
    }

    /** "such that their CONDS hold of the WORD of all their LETTERS". */
    private static void condsOfReadings() {
        String[] conds = {"", " begin", " middle", " end", " alone"};
        // By COND: READINGS of 1, 2, 3 CELLS by a RULE of it and a plain one beside it.
        int[][] due = {{2, 4, 8}, {1, 2, 2}, {1, 1, 2}, {1, 2, 2}, {2, 1, 1}};
        for (int c = 0; c < 5; c++) {
            RaisedPress x = Kit.pressed("rule a cells 1;rule b cells 1" + conds[c] + ";");
            row(x, 0, 0, 1, 1, 1);
            for (int many = 1; many <= 3; many++) {
                KIT.promise(48);
                KIT.told(x, "ways() of " + many + conds[c], x.ways(0, many), due[c][many - 1]);
                x.drop(0, true);
                int alone = c == 0 ? 1 : c == 4 && many == 1 ? 1 : 0;
                KIT.told(x, "ways() of " + many + conds[c] + " alone", x.ways(0, many), alone);
                KIT.promise(49);
                if (alone == 0) {
                    KIT.refused(x, "first() of " + many + conds[c], x.first(0, many), 6);
                } else {
                    KIT.told(x, "first() of " + many + conds[c], x.first(0, many), many);
                }
                x.drop(0, false);
            }
        }
    }

    /** "the FIRST by RULES' numbers". */
    private static void firstReading() {
        KIT.promise(49);
        RaisedPress x = Kit.pressed("rule aa cells 1 1 1;rule bb cells 1 1;rule c cells 1;");
        row(x, 0, 0, all(20, 1));
        int[] rules = {1, 1, 1, 2, 2, 2, 3, 3, 3, 4};
        int[] last = {2, 1, 0, 2, 1, 0, 2, 1, 0, 2};
        for (int many = 1; many <= 10; many++) {
            KIT.promise(49);
            KIT.told(x, "first() of " + many, x.first(0, many), rules[many - 1]);
            KIT.promise(50);
            KIT.told(x, "firstAt() of the last", x.firstAt(rules[many - 1] - 1), last[many - 1]);
            KIT.refused(x, "firstAt() behind it", x.firstAt(rules[many - 1]), 6);
            KIT.promise(51);
            int letters = 2 * rules[many - 1] - (last[many - 1] == 2 ? 1 : 0);
            KIT.told(x, "letters()", x.letters(), letters);
        }
        x.drop(0, true);
        x.drop(1, true);
        KIT.promise(49);
        KIT.told(x, "first() of 20 RULES", x.first(0, 20), 20);
        KIT.promise(50);
        for (int k = 0; k < 20; k++) {
            KIT.told(x, "firstAt(k)", x.firstAt(k), 2);
        }
        for (int[] wild : new int[][] {WILD, FAR, {20, 21}}) {
            for (int v : wild) {
                KIT.refused(x, "firstAt(" + v + ")", x.firstAt(v), 6);
            }
        }
        // By the first RULE that is unlike, not by how many there are.
        RaisedPress y = Kit.pressed("rule a cells 1;rule b cells 1 2;rule c cells 2 3;rule d cells 3;");
        row(y, 0, 0, 1, 2, 3);
        KIT.promise(49);
        KIT.told(y, "first()", y.first(0, 3), 2);
        KIT.promise(50);
        KIT.told(y, "firstAt(0)", y.firstAt(0), 0);
        KIT.told(y, "firstAt(1)", y.firstAt(1), 2);
        KIT.promise(51);
        RaisedPress z = Kit.pressed("rule abcdef cells 1;");
        row(z, 0, 0, all(20, 1));
        z.first(0, 20);
        KIT.told(z, "letters() of 20 RULES", z.letters(), 120);
    }

    /** "by first() latest with STATUS 0 (6: none such)"; "(6: there was none)". */
    private static void firstStays() {
        RaisedPress x = Kit.pressed("rule ab cells 1;rule c cells 2;");
        row(x, 0, 0, 1, 2, 3, 0);
        KIT.promise(50);
        x.first(0, 3);
        KIT.refused(x, "firstAt(0) behind first() with 6", x.firstAt(0), 6);
        KIT.promise(51);
        KIT.refused(x, "letters() behind first() with 6", x.letters(), 6);
        x.first(0, 2);
        for (int status = 1; status <= 6; status++) {
            if (status == 1) {
                x.first(0, 0);
            } else if (status == 2) {
                x.first(1, 1);
            } else if (status == 3) {
                x.first(0, 5);
            } else if (status == 4) {
                x.ways(0, 1);
            } else {
                x.first(0, status == 5 ? 4 : 3);
            }
            KIT.promise(50);
            KIT.told(x, "firstAt(0) behind a call with STATUS " + status, x.firstAt(0), 0);
            KIT.told(x, "firstAt(1) behind a call with STATUS " + status, x.firstAt(1), 1);
            KIT.refused(x, "firstAt(2)", x.firstAt(2), 6);
            KIT.promise(51);
            KIT.told(x, "letters() behind a call with STATUS " + status, x.letters(), 3);
        }
    }

    /** "TRUE is a READING whose LETTERS, SET as a WORD of small letters, give the ROW again". */
    private static void trueOnes() {
        KIT.promise(52);
        // The WORD of 6 LETTERS comes from 1 to 6 RULES: only one is what it is SET by.
        String six = "rule abcdef cells 9;rule abc cells 1;rule def cells 2;rule a cells 3;"
            + "rule bcdef cells 4;";
        RaisedPress x = Kit.pressed(six);
        row(x, 0, 0, 1, 2, 9, 3, 4);
        KIT.told(x, "truths(): abc def is not SET so", x.truths(0, 2), 0);
        x.drop(0, true);
        KIT.told(x, "truths(): abc def without the longer", x.truths(0, 2), 1);
        x.drop(1, true);
        KIT.told(x, "truths(): abc is not there", x.truths(0, 2), 0);
        x.drop(0, false);
        x.drop(1, false);
        row(x, 0, 0, 9, 9, 1);
        KIT.told(x, "truths(): abcdef abcdef abc", x.truths(0, 3), 1);
        row(x, 0, 0, 3, 4);
        KIT.told(x, "truths(): a bcdef is not SET so", x.truths(0, 2), 0);
        // CONDS of the WORD: a begin, then what it is SET by.
        RaisedPress y = Kit.pressed("rule ab cells 5 begin;rule a cells 1;rule b cells 2;");
        row(y, 0, 0, 1, 2, 1, 2);
        KIT.told(y, "truths(): ab alone is a, b", y.truths(0, 2), 1);
        KIT.told(y, "truths(): aba is ab, a", y.truths(0, 3), 0);
        row(y, 0, 0, 5, 1, 2);
        KIT.told(y, "truths(): aba", y.truths(0, 2), 1);
        KIT.told(y, "truths(): abab", y.truths(0, 3), 1);
        KIT.told(y, "truths(): ab alone has no READING by a begin", y.truths(0, 1), 0);
        // It needs no CAPITAL, no NUMBER; the ROW's own CELLS count, not their dots together.
        RaisedPress z = Kit.pressed("rule a cells 3;rule b cells 5;rule aa cells 5;rule bb cells 3 3;");
        row(z, 0, 0, 3, 3);
        KIT.told(z, "truths(): a a is not, bb is", z.truths(0, 2), 1);
        row(z, 0, 0, 5, 5);
        // b b is SET 3 3; b aa, aa b, aa aa are SET 5 5.
        KIT.told(z, "truths(): 5 5", z.truths(0, 2), 3);
    }

    /** "the first so many numbers of another TRAY (0 to 63) (1; 2; 3; 5: of either; ..)". */
    private static void failedNumbers() {
        KIT.promise(53);
        RaisedPress x = Kit.pressed("rule a cells 1;");
        row(x, 0, 2, 1, 1);
        row(x, 1, 0, 0, 63);
        KIT.told(x, "failed() of unlike sorts", x.failed(0, 1, 2), 1);
        // Of either TRAY, in this order.
        KIT.refused(x, "failed(0, 4, 1)", x.failed(0, 4, 1), 1);
        KIT.refused(x, "failed(2, 4, 1): 1 ahead of 2", x.failed(2, 4, 1), 1);
        KIT.refused(x, "failed(4, 2, 1): 1 ahead of 2", x.failed(4, 2, 1), 1);
        KIT.refused(x, "failed(2, 1, 9): 2 ahead of 3", x.failed(2, 1, 9), 2);
        KIT.refused(x, "failed(0, 2, 9): 2 ahead of 3", x.failed(0, 2, 9), 2);
        row(x, 2, 0, 64);
        KIT.refused(x, "failed(2, 1, 2): 3 ahead of 5", x.failed(2, 1, 2), 3);
        KIT.refused(x, "failed(0, 2, 2): 3 ahead of 5", x.failed(0, 2, 2), 3);
        KIT.refused(x, "failed(2, 1, 1)", x.failed(2, 1, 1), 5);
        KIT.refused(x, "failed(0, 2, 1)", x.failed(0, 2, 1), 5);
        row(x, 2, 0, 0, 5);
        KIT.refused(x, "failed(2, 1, 1): 0 is no CELL", x.failed(2, 1, 1), 5);
        KIT.told(x, "failed(0, 2, 2): 0 is no dot", x.failed(0, 2, 2), 1);
        KIT.refused(x, "failed(1, 0, 2): 0 is no CELL", x.failed(1, 0, 2), 5);
        // One TRAY for both: its dots are its CELLS.
        KIT.told(x, "failed(0, 0, 2)", x.failed(0, 0, 2), 1);
    }

    /** "READINGS of all ROWS that are like it but for these dots". */
    private static void failedDots() {
        KIT.promise(53);
        StringBuilder s = new StringBuilder();
        for (int k = 0; k < 24; k++) {
            s.append("rule ").append((char) ('a' + k)).append(" cells ").append(k + 1).append(";");
        }
        RaisedPress x = Kit.pressed(s.toString());
        for (int cell = 1; cell <= 63; cell += 2) {
            for (int dots = 0; dots <= 63; dots += 3) {
                row(x, 0, 0, cell);
                row(x, 1, 0, dots);
                int due = 0;
                for (int c = 1; c <= 24; c++) {
                    due += (c | dots) == (cell | dots) ? 1 : 0;
                }
                // Twelve calls a couple: a new object now and then.
                KIT.told(x, "failed() of " + cell + " with " + dots, x.failed(0, 1, 1), due);
            }
            x = Kit.pressed(s.toString());
        }
    }

    // ---- the table

    /** "dots 1 and 4, 2 and 5, 3 and 6 exchanged"; "A CELL is a number 1 to 63". */
    private static void mirrors() {
        KIT.promise(54);
        RaisedPress x = new RaisedPress();
        for (int cell = 1; cell <= 63; cell++) {
            int due = 0;
            for (int dot = 1; dot <= 6; dot++) {
                int other = dot <= 3 ? dot + 3 : dot - 3;
                due += (cell & 1 << (dot - 1)) != 0 ? 1 << (other - 1) : 0;
            }
            KIT.told(x, "mirror(" + cell + ")", x.mirror(cell), due);
        }
        for (int[] wild : new int[][] {WILD, FAR, {0, 64, 65, 128}}) {
            for (int v : wild) {
                KIT.refused(x, "mirror(" + v + ")", x.mirror(v), 1);
            }
        }
    }

    /** "the first RULE whose CELLS are its CELLS' MIRRORS, one by one"; near(): "7: not as many CELLS". */
    private static void turnedOnes() {
        RaisedPress x = Kit.pressed("rule a cells 9;rule b cells 9 9;rule c cells 9 9 9;"
            + "rule d cells 1 2 4;rule e cells 8 16 32;rule f cells 32 16 8;rule g cells 8 16;"
            + "rule h cells 8 16 32 end;");
        int[] turned = {0, 1, 2, 4, 3, -1, -1, 3};
        int[] cells = {1, 2, 3, 3, 3, 3, 2, 3};
        for (int r = 0; r < 8; r++) {
            KIT.promise(55);
            if (turned[r] < 0) {
                KIT.refused(x, "turned(" + r + ")", x.turned(r), 6);
            } else {
                KIT.told(x, "turned(" + r + ")", x.turned(r), turned[r]);
            }
            KIT.promise(57);
            for (int o = 0; o < 8; o++) {
                int got = x.near(r, o);
                KIT.due("near(" + r + ", " + o + ")", got == -1, cells[r] != cells[o]);
                KIT.due("status()", x.status(), cells[r] != cells[o] ? 7 : 0);
            }
            KIT.told(x, "near() of itself", x.near(r, r), 0);
        }
        KIT.told(x, "near(4, 5)", x.near(4, 5), 4);
        KIT.told(x, "near(2, 3)", x.near(2, 3), 7);
        RaisedPress y = Kit.pressed("rule a cells 63 63 63;rule b cells 1 1 1;");
        KIT.told(y, "near(0, 1)", y.near(0, 1), 15);
        for (int[] wild : new int[][] {WILD, FAR, {8, 9, 24, 32}}) {
            for (int v : wild) {
                KIT.promise(55);
                KIT.refused(x, "turned(" + v + ")", x.turned(v), 1);
                KIT.promise(57);
                KIT.refused(x, "near(0, " + v + ")", x.near(0, v), 1);
                KIT.refused(x, "near(" + v + ", 0)", x.near(v, 0), 1);
                KIT.refused(x, "near(" + v + ", " + v + ")", x.near(v, v), 1);
                KIT.promise(58);
                KIT.refused(x, "clash(0, " + v + ")", x.clash(0, v), 1);
                KIT.refused(x, "clash(" + v + ", 0)", x.clash(v, 0), 1);
                KIT.refused(x, "clash(" + v + ", " + v + ")", x.clash(v, v), 1);
            }
        }
    }

    /** "How many couples .. that are not DROPPED"; "(DROPPED ones, too)"; "one and itself: 1". */
    private static void couples() {
        StringBuilder s = new StringBuilder();
        for (int k = 0; k < 24; k++) {
            s.append("rule ").append((char) ('a' + k)).append(" cells 1 2 3;");
        }
        RaisedPress x = Kit.pressed(s.toString());
        for (int there = 24; there >= 0; there--) {
            KIT.promise(56);
            KIT.told(x, "twins() of " + there, x.twins(), there * (there - 1) / 2);
            KIT.promise(59);
            KIT.told(x, "clashes() of " + there, x.clashes(), there * (there - 1));
            KIT.promise(60);
            KIT.told(x, "clear() of " + there, x.clear(), there < 2 ? 1 : 0);
            KIT.promise(61);
            if (there < 2) {
                KIT.refused(x, "twin() of " + there, x.twin(), 6);
            } else {
                KIT.told(x, "twin() of " + there, x.twin(), 3);
            }
            if (there > 0) {
                x.drop(24 - there, true);
            }
        }
        for (int a = 0; a < 24; a += 23) {
            KIT.promise(55);
            KIT.refused(x, "turned() of a DROPPED one", x.turned(a), 6);
            for (int b = 0; b < 24; b += 23) {
                KIT.promise(57);
                KIT.told(x, "near() of DROPPED ones", x.near(a, b), 0);
                KIT.promise(58);
                KIT.told(x, "clash() of DROPPED ones", x.clash(a, b), 1);
            }
        }
        // The beginning, all, and neither: of one, two, three CELLS.
        RaisedPress y = Kit.pressed("rule a cells 7;rule b cells 7 8;rule c cells 7 8 9;"
            + "rule d cells 8;rule e cells 8 9;rule f cells 7 9 9;");
        int[][] due = {{1, 1, 1, 0, 0, 1}, {0, 1, 1, 0, 0, 0}, {0, 0, 1, 0, 0, 0},
            {0, 0, 0, 1, 1, 0}, {0, 0, 0, 0, 1, 0}, {0, 0, 0, 0, 0, 1}};
        KIT.promise(58);
        for (int a = 0; a < 6; a++) {
            for (int b = 0; b < 6; b++) {
                KIT.told(y, "clash(" + a + ", " + b + ")", y.clash(a, b), due[a][b]);
            }
        }
        KIT.promise(59);
        KIT.told(y, "clashes()", y.clashes(), 5);
        KIT.promise(56);
        KIT.told(y, "twins()", y.twins(), 0);
    }

    private static void twin(String press, int due) {
        RaisedPress x = Kit.pressed(press);
        KIT.promise(60);
        KIT.told(x, "clear() of " + press, x.clear(), due < 0 ? 1 : 0);
        KIT.promise(61);
        if (due < 0) {
            KIT.refused(x, "twin() of " + press, x.twin(), 6);
        } else {
            KIT.told(x, "twin() of " + press, x.twin(), due);
        }
    }

    /** "no two unlike rows of RULES have the same CELLS side by side (CONDS not minded)". */
    private static void clearOnes() {
        twin("", -1);
        twin("capital 1;number 1;hyphen 1;", -1);
        twin("rule a cells 1;", -1);
        twin("rule a cells 1 1 1;", -1);
        // Their COND would part them; it is not minded.
        twin("rule a cells 1 begin;rule a cells 1 end;", 1);
        twin("rule a cells 1 alone;rule b cells 1 1 middle;", 2);
        // CLASHES, but CLEAR; the same end, but CLEAR; both, and not.
        twin("rule a cells 1;rule b cells 1 2;rule c cells 1 2 2;", -1);
        twin("rule a cells 2;rule b cells 1 2;rule c cells 1 1 2;", -1);
        twin("rule a cells 1;rule b cells 1 2;rule c cells 2 1;", 3);
        twin("rule a cells 1 2;rule b cells 1;rule c cells 2 3;rule d cells 3 4;rule e cells 4;", 4);
        // Without an end: the one row is ahead for ever.
        twin("rule a cells 1;rule b cells 1 2;rule c cells 2 2;", -1);
        twin("rule a cells 1;rule b cells 1 2;rule c cells 2 2;rule d cells 2;", 2);
        // One row as often as the other: 1 1, 1 1 1.
        twin("rule a cells 1 1;rule b cells 1 1 1;", 5);
        twin("rule a cells 1;rule b cells 1 1 1;", 3);
        // A beginning in common does not count: 2 1 1 or 2 1 1 has the TWIN 1 1.
        twin("rule a cells 2;rule b cells 1;rule c cells 1 1;", 2);
        twin("rule a cells 2 1;rule b cells 2;rule c cells 1 3;rule d cells 3;", 3);
        RaisedPress x = Kit.pressed("rule a cells 1;rule b cells 1;rule c cells 2 2;rule d cells 2;");
        KIT.promise(61);
        KIT.told(x, "twin()", x.twin(), 1);
        x.drop(1, true);
        KIT.told(x, "twin() without b", x.twin(), 2);
        x.drop(3, true);
        KIT.refused(x, "twin() without b, d", x.twin(), 6);
        KIT.promise(60);
        KIT.told(x, "clear() without b, d", x.clear(), 1);
        x.drop(1, false);
        KIT.told(x, "clear() with b again", x.clear(), 0);
    }

    /** "The set of letters (1 for a, 2 for b ..) .. just that one, without a COND". */
    private static void lacking() {
        KIT.promise(62);
        int all = (1 << 26) - 1;
        for (int k = 0; k < 26; k++) {
            String letter = String.valueOf((char) ('a' + k));
            RaisedPress x = Kit.pressed("rule " + letter + " cells 1;");
            KIT.told(x, "lacks() with " + letter, x.lacks(), all - (1 << k));
            x.drop(0, true);
            KIT.told(x, "lacks() without " + letter, x.lacks(), all);
            for (String other : new String[] {letter + " cells 1 begin", letter + " cells 1 middle",
                letter + " cells 1 end", letter + " cells 1 alone", letter + letter + " cells 1"}) {
                Kit.press(x, "rule " + other + ";");
                KIT.told(x, "lacks() with " + other, x.lacks(), all);
            }
        }
        StringBuilder s = new StringBuilder();
        for (int k = 2; k < 26; k++) {
            s.append("rule ").append((char) ('a' + k)).append(" cells 1;");
        }
        RaisedPress x = Kit.pressed(s.toString());
        KIT.told(x, "lacks() with 24 RULES", x.lacks(), 3);
    }

    // ---- dots that wear off

    /** The draws told once more, with the whole of the numbers. */
    private static int left(long[] s, int cell, int sixteenths) {
        int left = cell;
        for (int dot = 1; dot <= 6; dot++) {
            if ((cell >> (dot - 1)) % 2 == 1) {
                s[0] = (s[0] * 2801 + 10163) % 65536;
                left -= (s[0] / 8) % 16 < sixteenths ? 1 << (dot - 1) : 0;
            }
        }
        return left;
    }

    /** "WORN by a seed (0 to 9,999) and sixteenths (0 to 16)": "less than that: the dot is gone". */
    private static void draws() {
        for (int sixteenths = 0; sixteenths <= 16; sixteenths++) {
            RaisedPress x = Kit.written("capital 32;rule a cells 63;rule b cells 18 5;", "Ab aab bbA");
            for (int seed : new int[] {0, 1, 2, 4999, 9998, 9999}) {
                KIT.promise(63);
                long[] s = {seed};
                int gone = 0;
                int[] due = new int[x.size(0)];
                for (int k = 0; k < due.length; k++) {
                    due[k] = left(s, x.cell(k), sixteenths);
                    gone += Integer.bitCount(x.cell(k)) - Integer.bitCount(due[k]);
                }
                KIT.told(x, "worn(" + seed + ", " + sixteenths + ")", x.worn(seed, sixteenths), gone);
                KIT.due("dots() as SET: all gone, none", gone == x.dots() ? 1 : gone == 0 ? 0 : -1,
                    sixteenths == 16 ? 1 : sixteenths == 0 ? 0 : -1);
                KIT.promise(64);
                for (int k = 0; k < due.length; k++) {
                    KIT.told(x, "wornAt(" + k + ")", x.wornAt(k), due[k]);
                }
            }
        }
        KIT.promise(63);
        RaisedPress x = Kit.written("rule a cells 63;", "a");
        for (int[] wild : new int[][] {WILD, FAR, {10000, 10001, 65536}}) {
            for (int v : wild) {
                KIT.refused(x, "worn(" + v + ", 1)", x.worn(v, 1), 1);
            }
        }
        for (int[] wild : new int[][] {WILD, FAR, {17, 18, 32}}) {
            for (int v : wild) {
                KIT.refused(x, "worn(1, " + v + ")", x.worn(1, v), 1);
            }
        }
    }

    /** "by worn() latest with STATUS 0 (6: none such)". */
    private static void wornPlaces() {
        KIT.promise(64);
        RaisedPress x = Kit.written("rule a cells 7 7 7;capital 7;", "A".repeat(300));
        KIT.refused(x, "wornAt(0) ahead of worn()", x.wornAt(0), 6);
        x.worn(-1, 0);
        KIT.refused(x, "wornAt(0) behind worn() with 1", x.wornAt(0), 6);
        x.worn(0, 0);
        KIT.told(x, "wornAt(1199)", x.wornAt(1199), 7);
        for (int[] wild : new int[][] {WILD, FAR, {1200, 1201}}) {
            for (int v : wild) {
                KIT.refused(x, "wornAt(" + v + ")", x.wornAt(v), 6);
            }
        }
        x.worn(0, 17);
        x.odds(0, 1, 16);
        KIT.told(x, "wornAt(0) behind worn() with 1", x.wornAt(0), 7);
        Kit.writing(x, "a");
        KIT.told(x, "wornAt(1199) of what was SET then", x.wornAt(1199), 7);
        Kit.press(x, "rule b cells 1;");
        x.worn(0, 16);
        KIT.told(x, "wornAt(0) behind worn() with 6", x.wornAt(0), 7);
        Kit.writing(x, " ");
        x.worn(0, 16);
        KIT.refused(x, "wornAt(0) of nothing", x.wornAt(0), 6);
    }

    /** "in how many of so many seeds (1 to 20) from one on .. (1: the last above 9,999, too)". */
    private static void seeds() {
        KIT.promise(65);
        for (int sixteenths = 0; sixteenths <= 16; sixteenths++) {
            for (int many = 1; many <= 20; many++) {
                RaisedPress x = Kit.written("rule a cells 3;rule b cells 4 8;", "ab a");
                int seed = many % 2 == 0 ? 10000 - many : 37 * many;
                int held = 0;
                for (int k = 0; k < many; k++) {
                    long[] s = {seed + k};
                    boolean bare = false;
                    for (int c = 0; c < 5; c++) {
                        int cell = x.cell(c);
                        bare |= left(s, cell, sixteenths) == 0 && cell != 0;
                    }
                    held += bare ? 0 : 1;
                }
                int common = held == 0 ? many : java.math.BigInteger.valueOf(held)
                    .gcd(java.math.BigInteger.valueOf(many)).intValue();
                String call = "odds(" + seed + ", " + many + ", " + sixteenths + ")";
                KIT.told(x, call, x.odds(seed, many, sixteenths));
                KIT.promise(3);
                KIT.due("top() of " + call, x.top(), held / common);
                KIT.promise(4);
                KIT.due("bottom() of " + call, x.bottom(), many / common);
                KIT.promise(65);
            }
        }
        RaisedPress x = Kit.written("rule a cells 3;", "a");
        x.odds(0, 3, 0);
        for (int many = 1; many <= 20; many++) {
            KIT.told(x, "odds() with the last 9,999", x.odds(10000 - many, many, 0));
            KIT.refused(x, "odds() with the last 10,000", x.odds(10001 - many, many, 0), 1);
        }
        for (int[] wild : new int[][] {WILD, FAR}) {
            for (int v : wild) {
                KIT.refused(x, "odds(" + v + ", 1, 1)", x.odds(v, 1, 1), 1);
                KIT.refused(x, "odds(1, " + v + ", 1)", x.odds(1, v, 1), 1);
                KIT.refused(x, "odds(1, 1, " + v + ")", x.odds(1, 1, v), 1);
            }
        }
        KIT.refused(x, "odds(1, 0, 1)", x.odds(1, 0, 1), 1);
        KIT.refused(x, "odds(1, 21, 1)", x.odds(1, 21, 1), 1);
        KIT.refused(x, "odds(1, 1, 17)", x.odds(1, 1, 17), 1);
        KIT.refused(x, "odds(10000, 1, 1)", x.odds(10000, 1, 1), 1);
        KIT.told(x, "odds(9999, 1, 16)", x.odds(9999, 1, 16));
    }

    /** "MARKS, at most 3": "A MARK more .. (4)", "back .. (6)". */
    private static void marks() {
        RaisedPress x = Kit.pressed("rule a cells 1;rule b cells 2;rule c cells 3;");
        KIT.promise(67);
        KIT.refused(x, "back() without MARKS", x.back(), 6);
        for (int round = 0; round < 3; round++) {
            KIT.promise(66);
            for (int k = 1; k <= 3; k++) {
                x.drop(k - 1, true);
                Kit.writing(x, "abc".substring(k));
                KIT.told(x, "mark()", x.mark(), k);
            }
            for (int k = 0; k < 3; k++) {
                KIT.refused(x, "mark() more than 3", x.mark(), 4);
            }
            KIT.promise(67);
            Kit.press(x, "rule z cells 1;");
            for (int k = 2; k >= 0; k--) {
                KIT.told(x, "back()", x.back(), k);
                KIT.told(x, "told(6)", x.told(6), (1 << (k + 1)) - 1);
                KIT.told(x, "size(0)", x.size(0), 2 - k);
                KIT.told(x, "told(0)", x.told(0), 3);
            }
            for (int k = 0; k < 3; k++) {
                KIT.refused(x, "back() more than there were", x.back(), 6);
            }
            x.drop(0, false);
        }
    }
}

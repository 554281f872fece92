/**
 * Every sentence of the document that names an edge, for a WRITING and what is SET (promises 11 and
 * 18 to 47). A comment quotes the sentence whose edge is tried.
 */
public final class SetEdgesTest {

    private static final Kit KIT = Kit.start();

    private interface Ask {
        int of(RaisedPress x, int k);
    }

    private interface Question {
        int of(RaisedPress x);
    }

    private static final String TABLE = "capital 32;number 60;hyphen 36;line 6;page 2;"
        + "rule a cells 1;rule b cells 3;rule c cells 9 1;rule ab cells 5;";

    /** LINES: 32 9 1 5 | 60 1 3 | 5 5 5 9 1 36 | 1 5 0 3. */
    private static final String TEXT = "Cab 12 abababcaab b";

    private SetEdgesTest() {
    }

    public static void main(String[] args) {
        bytes();
        conds();
        asManyTheFirst();
        greatLetters();
        figures();
        blanks();
        faultOrder();
        faultChangesNothing();
        outside();
        nothingSet();
        emptyWriting();
        linesOfEveryWidth();
        pieceBesidePiece();
        pagesOfEverySize();
        pagePlaces();
        fullTable();
        resets();
        savings();
        denseEdges();
        everyCell();
        letterCounts();
        raggedEdges();
        lineCounts();
        KIT.end("SetEdgesTest");
    }

    // ---- a WRITING

    private static String alphabet(int many) {
        StringBuilder s = new StringBuilder();
        for (int k = 0; k < many; k++) {
            s.append("rule ").append((char) ('a' + k)).append(" cells ").append(k + 1).append(";");
        }
        return s.toString();
    }

    /** "letters small and great (65 to 90), digits, blanks (10, 32)"; "1 none of these bytes". */
    private static void bytes() {
        KIT.promise(11);
        String press = "capital 40;number 50;" + alphabet(24);
        for (int b = 0; b < 256; b++) {
            boolean blank = b == 10 || b == 32;
            boolean small = b >= 97 && b <= 120;
            boolean great = b >= 65 && b <= 88;
            boolean digit = b >= 48 && b <= 57;
            boolean lacking = b == 121 || b == 122 || b == 89 || b == 90;
            RaisedPress x = Kit.pressed(press);
            int due = blank ? 1 : small ? 2 : great || digit ? 3 : -1;
            KIT.due("writing() of a and byte " + b, Kit.writing(x, "a" + (char) b), due);
            KIT.due("fault(0)", x.fault(0), due > 0 ? 0 : lacking ? 3 : 1);
            KIT.due("fault(1)", x.fault(1), due > 0 ? -1 : 1);
            if (small || great) {
                KIT.due("the CELL of byte " + b, x.cell(due - 1), (b & 31));
            } else if (digit) {
                KIT.due("the CELL of byte " + b, x.cell(2), b == 48 ? 10 : b - 48);
            }
        }
    }

    private static void set(String press, String text, String cells) {
        RaisedPress x = Kit.written(press, text);
        KIT.due("status() of " + text, x.status(), 0);
        KIT.same("CELLS of " + text, Kit.cells(x), cells);
    }

    private static void fault(String press, String text, int kind, int place) {
        RaisedPress x = Kit.pressed(press);
        KIT.refused(x, "writing() of " + text, Kit.writing(x, text), 9);
        KIT.due("fault(0) of " + text, x.fault(0), kind);
        KIT.due("fault(1) of " + text, x.fault(1), place);
    }

    /** "begin: it begins the WORD, but does not end it; end: ..; alone: ..; middle: neither". */
    private static void conds() {
        KIT.promise(11);
        String one = "rule a cells 11 begin;rule a cells 12 middle;rule a cells 13 end;"
            + "rule a cells 14 alone;rule a cells 15;";
        set("number 60;" + one, "a", "14");
        set(one, "aa", "11 13");
        set(one, "aaa", "11 12 13");
        set(one, "aaaa", "11 12 12 13");
        set(one, "a a", "14 0 14");
        set("number 60;" + one, "a1aa1", "14 60 15 11 13 60 15");
        set("capital 9;" + one, "aA", "11 9 13");
        for (int cond = 0; cond < 4; cond++) {
            RaisedPress x = Kit.pressed(one);
            x.drop(cond, true);
            Kit.writing(x, "aaa a");
            StringBuilder due = new StringBuilder();
            due.append(cond == 0 ? 15 : 11).append(' ').append(cond == 1 ? 15 : 12).append(' ');
            due.append(cond == 2 ? 15 : 13).append(" 0 ").append(cond == 3 ? 15 : 14);
            KIT.same("CELLS without COND " + (cond + 1), Kit.cells(x), due.toString());
        }
        String two = "rule a cells 1;rule b cells 2;";
        set(two + "rule ab cells 5 begin;", "ab abb bab babb", "1 2 0 5 2 0 2 1 2 0 2 1 2 2");
        set(two + "rule ab cells 5 middle;", "ab abb bab babb", "1 2 0 1 2 2 0 2 1 2 0 2 5 2");
        set(two + "rule ab cells 5 end;", "ab abb bab babb", "1 2 0 1 2 2 0 2 5 0 2 1 2 2");
        set(two + "rule ab cells 5 alone;", "ab abb bab babb", "5 0 1 2 2 0 2 1 2 0 2 1 2 2");
        set(two + "rule ab cells 5;", "ab abb bab babb", "5 0 5 2 0 2 5 0 2 5 2");
        // Only RULES with a COND: there is none at a letter where none holds.
        fault("rule a cells 1 begin;", "aa", 3, 1);
        fault("rule a cells 1 begin;", "a", 3, 0);
        fault("rule a cells 1 alone;", "aa", 3, 0);
        fault("rule a cells 1 middle;rule a cells 1 begin;", "aaa", 3, 2);
        fault("rule a cells 1 end;rule a cells 1 begin;", "aa aaa", 3, 4);
    }

    /** "the RULE with the most LETTERS .. (of as many the first)". */
    private static void asManyTheFirst() {
        KIT.promise(11);
        String single = "rule a cells 1;rule b cells 2;";
        set(single + "rule ab cells 7;rule ab cells 8 begin;", "aba", "7 1");
        set(single + "rule ab cells 8 begin;rule ab cells 7;", "aba", "8 1");
        set(single + "rule ab cells 8 begin;rule ab cells 7;", "ab", "7");
        set("rule a cells 5 alone;" + single, "a", "5");
        set(single + "rule a cells 5 alone;", "a", "1");
        String six = "rule a cells 1;rule aa cells 2;rule aaa cells 3;rule aaaa cells 4;"
            + "rule aaaaa cells 5;rule aaaaaa cells 6;";
        for (int n = 1; n <= 6; n++) {
            set(six, "a".repeat(n), String.valueOf(n));
            set(six, "a".repeat(6 + n), "6 " + n);
        }
        set(six, "a".repeat(13), "6 6 1");
        // Within the WORD: a digit or a blank ends it.
        set("number 60;" + six, "aa aa1aaa", "2 0 2 60 1 3");
        // The most LETTERS, not the fewest CELLS, and no looking ahead.
        set("rule ab cells 1 2 3;" + single, "ab", "1 2 3");
        fault("rule ab cells 7;rule a cells 1;rule bc cells 8;", "abc", 3, 2);
    }

    /** "none but the first of which is great there"; "ahead of them CAPITAL, if its first letter is great". */
    private static void greatLetters() {
        KIT.promise(11);
        String press = "capital 40;rule a cells 1;rule b cells 2;rule c cells 3;rule abc cells 7;";
        set(press, "abc", "7");
        set(press, "Abc", "40 7");
        set(press, "aBc", "1 40 2 3");
        set(press, "abC", "1 2 40 3");
        set(press, "ABC", "40 1 40 2 40 3");
        set(press, "aabc", "1 7");
        set(press, "aAbc", "1 40 7");
        set(press, "abcAbcabc", "7 40 7 7");
        fault("capital 40;rule abc cells 7;", "aBc", 3, 0);
        fault("capital 40;rule abc cells 7;", "AbcabC", 3, 3);
    }

    /** "At a FIGURE: NUMBER, then for each digit .. the first RULE without a COND that is just a (for 1)". */
    private static void figures() {
        KIT.promise(11);
        String press = "number 60;" + alphabet(10);
        for (int d = 0; d <= 9; d++) {
            set(press, String.valueOf(d), "60 " + (d == 0 ? 10 : d));
            // Without the RULE for it; the others are there.
            RaisedPress x = Kit.pressed(press);
            x.drop(d == 0 ? 9 : d - 1, true);
            for (int e = 0; e <= 9; e++) {
                KIT.due("writing() of " + e + " without the RULE of " + d,
                    Kit.writing(x, String.valueOf(e)), e == d ? -1 : 2);
                KIT.due("fault(0)", x.fault(0), e == d ? 4 : 0);
                KIT.due("fault(1)", x.fault(1), e == d ? 0 : -1);
            }
        }
        set(press, "1234567890", "60 1 2 3 4 5 6 7 8 9 10");
        set(press, "12 34", "60 1 2 0 60 3 4");
        set(press, "1a2", "60 1 1 60 2");
        // A COND, more LETTERS: no RULE for a digit. Its COND is not looked at where it has none.
        fault("number 60;rule a cells 1 alone;rule aa cells 2;", "1", 4, 0);
        set("number 60;rule a cells 5 alone;rule a cells 1;", "1", "60 1");
        set("number 60;rule aa cells 5;rule a cells 1;", "11", "60 1 1");
        fault(alphabet(10), "1", 4, 0);
        fault(alphabet(10), "a1", 4, 1);
        fault("number 60;" + alphabet(9), "90", 4, 1);
    }

    /** "Blanks, as long as they go, are one blank CELL between two PIECES (none at the ends)". */
    private static void blanks() {
        KIT.promise(11);
        String press = "number 60;rule a cells 1;";
        for (String blank : new String[] {" ", "\n", "  ", " \n", "\n\n", " \n \n "}) {
            set(press, blank, "");
            set(press, "a" + blank, "1");
            set(press, blank + "a", "1");
            set(press, blank + "a" + blank, "1");
            set(press, "a" + blank + "a", "1 0 1");
            set(press, "1" + blank + "1", "60 1 0 60 1");
            set(press, blank + "a" + blank + "a" + blank, "1 0 1");
        }
        set(press, " ".repeat(299) + "a", "1");
        set(press, "a" + " ".repeat(298) + "a", "1 0 1");
        // A FAULT behind blanks, at either end.
        fault(press, "  x", 3, 2);
        fault(press, "a  #", 1, 3);
    }

    /** "FAULTS of it, the first byte"; "(3 ahead of 5.)". */
    private static void faultOrder() {
        KIT.promise(11);
        String press = "rule a cells 1;rule bc cells 2;";
        fault(press, "aA", 5, 1);
        fault(press, "aX", 3, 1);
        fault(press, "aB", 3, 1);
        fault(press, "aBc", 5, 1);
        fault(press, "bC", 3, 0);
        fault(press, "a1", 4, 1);
        fault(press, "a\t", 1, 1);
        fault(press, "Ax1#", 5, 0);
        fault(press, "xA1#", 3, 0);
        fault(press, "1xA#", 4, 0);
        fault(press, "#1xA", 1, 0);
        fault(press, "a".repeat(299) + "#", 1, 299);
        fault(press, "a".repeat(299) + "x", 3, 299);
        fault(press, "a".repeat(299) + "A", 5, 299);
        fault(press, "a".repeat(299) + "1", 4, 299);
    }

    /** "What was SET ahead stays". */
    private static void faultChangesNothing() {
        KIT.promise(11);
        for (String text : new String[] {"a#", "x", "4", "abX", "cccccccc#"}) {
            RaisedPress x = Kit.written(TABLE, TEXT);
            KIT.refused(x, "writing() of " + text, Kit.writing(x, text), 9);
            KIT.same("LINES as they were", Kit.lines(x),
                "32 9 1 5 | 60 1 3 | 5 5 5 9 1 36 | 1 5 0 3");
            KIT.told(x, "used(3)", x.used(3), 5);
            KIT.told(x, "signs(0)", x.signs(0), 1);
            KIT.told(x, "piece(2, 0)", x.piece(2, 0), 7);
            KIT.told(x, "fewest()", x.fewest(), 18);
            KIT.told(x, "plain()", x.plain(), 23);
            KIT.told(x, "reset()", x.reset(), 18);
        }
    }

    // ---- places that are not there

    /** Outside of least to most a call is refused; within, it is told, or 6 where that may be. */
    private static void outside(int promise, String name, Ask ask, int[] bounds, int status) {
        KIT.promise(promise);
        RaisedPress x = Kit.written(TABLE, TEXT);
        int least = bounds[0];
        int most = bounds[1];
        int[] wild = {Integer.MIN_VALUE, Integer.MIN_VALUE + 1, least - 64, least - 2, least - 1,
            most + 1, most + 2, most + 64, 1 << 30, Integer.MAX_VALUE - 1, Integer.MAX_VALUE};
        for (int v : wild) {
            KIT.refused(x, name + " of " + v, ask.of(x, v), status);
        }
        for (int v = least; v <= most; v++) {
            int got = ask.of(x, v);
            KIT.due("status() of " + name + " of " + v, x.status(), got == -1 ? 6 : 0);
        }
        KIT.due(name + " of the first", ask.of(x, least) != -1, bounds[2] == 1);
        KIT.due(name + " of the last", ask.of(x, most) != -1, bounds[3] == 1);
    }

    private static void outside() {
        outside(19, "size()", (x, k) -> x.size(k), new int[] {0, 4, 1, 1}, 1);
        outside(20, "cell()", (x, k) -> x.cell(k), new int[] {0, 17, 1, 1}, 6);
        outside(21, "line()", (x, k) -> x.line(k), new int[] {0, 3, 1, 1}, 6);
        outside(22, "lineAt(k, 0)", (x, k) -> x.lineAt(k, 0), new int[] {0, 3, 1, 1}, 6);
        outside(22, "lineAt(0, k)", (x, k) -> x.lineAt(0, k), new int[] {0, 3, 1, 1}, 6);
        outside(22, "lineAt(2, k)", (x, k) -> x.lineAt(2, k), new int[] {0, 5, 1, 1}, 6);
        outside(23, "onPage(k, 0, 0)", (x, k) -> x.onPage(k, 0, 0), new int[] {0, 1, 1, 1}, 6);
        outside(23, "onPage(0, k, 0)", (x, k) -> x.onPage(0, k, 0), new int[] {0, 1, 1, 1}, 1);
        outside(23, "onPage(0, 0, k)", (x, k) -> x.onPage(0, 0, k), new int[] {0, 5, 1, 1}, 1);
        outside(25, "used()", (x, k) -> x.used(k), new int[] {0, 3, 1, 1}, 1);
        outside(30, "saving(), 3 alone can be told",
            (x, k) -> k >= 0 && k < 3 ? x.saving(3) : x.saving(k), new int[] {0, 3, 1, 1}, 1);
        outside(32, "piece(k, 0)", (x, k) -> x.piece(k, 0), new int[] {0, 3, 1, 1}, 6);
        outside(32, "piece(k, 1)", (x, k) -> x.piece(k, 1), new int[] {0, 3, 1, 1}, 6);
        outside(32, "piece(0, k)", (x, k) -> x.piece(0, k), new int[] {0, 1, 1, 1}, 1);
        outside(33, "by()", (x, k) -> x.by(k), new int[] {0, 17, 0, 1}, 6);
        outside(34, "dense()", (x, k) -> x.dense(k > 18 && k < 41 ? 1 : k), new int[] {1, 40, 1, 1}, 1);
        outside(35, "alike(k, 0)", (x, k) -> x.alike(k, 0), new int[] {0, 3, 1, 1}, 6);
        outside(35, "alike(3, k)", (x, k) -> x.alike(3, k), new int[] {0, 3, 1, 1}, 6);
        outside(37, "inLine()", (x, k) -> x.inLine(k), new int[] {0, 3, 1, 1}, 6);
        outside(38, "wasted()", (x, k) -> x.wasted(k), new int[] {0, 3, 1, 1}, 6);
        outside(41, "pieceOf()", (x, k) -> x.pieceOf(k), new int[] {0, 17, 1, 1}, 6);
        outside(42, "signs()", (x, k) -> x.signs(k), new int[] {0, 1, 1, 1}, 1);
        outside(43, "covers()", (x, k) -> x.covers(k), new int[] {0, 3, 1, 1}, 1);
        outside(44, "often()", (x, k) -> x.often(k), new int[] {0, 63, 1, 1}, 1);
        KIT.promise(32);
        RaisedPress x = Kit.written(TABLE, TEXT);
        KIT.refused(x, "piece(4, 2): 1 ahead of 6", x.piece(4, 2), 1);
        KIT.refused(x, "piece(-1, -1): 1 ahead of 6", x.piece(-1, -1), 1);
        KIT.promise(35);
        KIT.refused(x, "alike(4, 4)", x.alike(4, 4), 6);
    }

    private static Question[] questions() {
        return new Question[] {x -> x.size(0), x -> x.size(1), x -> x.size(2), x -> x.size(3),
            x -> x.size(4), x -> x.hyphens(), x -> x.used(0), x -> x.used(3), x -> x.useless(),
            x -> x.dots(), x -> x.plain(), x -> x.fewest(), x -> x.saving(0), x -> x.saving(3),
            x -> x.cheapest(), x -> x.dense(1), x -> x.dense(40), x -> x.saved(), x -> x.signs(0),
            x -> x.signs(1), x -> x.covers(0), x -> x.often(0), x -> x.often(63), x -> x.ragged(),
            x -> x.leastRagged(), x -> x.worn(0, 0), x -> x.odds(0, 1, 0) ? 0 : -1};
    }

    private static Question[] noneSuch() {
        return new Question[] {x -> x.cell(0), x -> x.line(0), x -> x.lineAt(0, 0),
            x -> x.onPage(0, 0, 0), x -> x.piece(0, 0), x -> x.by(0), x -> x.alike(0, 0),
            x -> x.longest(), x -> x.inLine(0), x -> x.wasted(0), x -> x.frequent(),
            x -> x.pieceOf(0), x -> x.commonest()};
    }

    private static Question[] wrongNumbers() {
        return new Question[] {x -> x.size(-1), x -> x.size(5), x -> x.onPage(0, 0, 6),
            x -> x.onPage(0, 2, 0), x -> x.used(4), x -> x.saving(4), x -> x.saving(-1),
            x -> x.piece(0, 2), x -> x.piece(0, -1), x -> x.dense(0), x -> x.dense(41),
            x -> x.signs(2), x -> x.covers(4), x -> x.often(64), x -> x.often(-1),
            x -> x.worn(-1, 0), x -> x.worn(0, 17), x -> x.odds(0, 0, 0) ? 0 : -1,
            x -> x.odds(9999, 2, 0) ? 0 : -1};
    }

    /** "6: nothing was SET": no WRITING, one with a FAULT, a PRESS more, a MARK without. */
    private static void nothingSet() {
        for (int state = 0; state < 4; state++) {
            RaisedPress x = Kit.pressed(TABLE);
            if (state == 1) {
                Kit.writing(x, "abx");
            } else if (state == 2) {
                Kit.writing(x, TEXT);
                x.drop(3, true);
                Kit.press(x, TABLE);
            } else if (state == 3) {
                x.mark();
                Kit.writing(x, TEXT);
                x.back();
            }
            KIT.promise(19);
            refusedAll(x, questions(), 6, "question " + state + ", nothing SET: ");
            KIT.promise(20);
            refusedAll(x, noneSuch(), 6, "place " + state + ", nothing SET: ");
            // 1 ahead of 6.
            refusedAll(x, wrongNumbers(), 1, "wrong number " + state + ", nothing SET: ");
        }
    }

    private static void refusedAll(RaisedPress x, Question[] all, int status, String name) {
        for (int k = 0; k < all.length; k++) {
            KIT.refused(x, name + k, all[k].of(x), status);
        }
    }

    /** A WRITING of no PIECE is SET: 0 of all, and no CELL, LINE, PAGE, PIECE, letter. */
    private static void emptyWriting() {
        for (String text : new String[] {"", " ", "\n \n"}) {
            RaisedPress x = Kit.written(TABLE, TEXT);
            KIT.promise(11);
            KIT.told(x, "writing() of blanks", Kit.writing(x, text), 0);
            KIT.promise(18);
            KIT.told(x, "reset()", x.reset(), 0);
            KIT.promise(19);
            Question[] all = questions();
            for (int k = 0; k < all.length; k++) {
                // useless() has all four RULES, dense() can't be; all others are 0.
                if (k == 15 || k == 16) {
                    KIT.refused(x, "dense() of nothing", all[k].of(x), 7);
                } else {
                    KIT.told(x, "question " + k + " of nothing", all[k].of(x), k == 8 ? 15 : 0);
                }
            }
            KIT.promise(20);
            refusedAll(x, noneSuch(), 6, "place in nothing ");
            refusedAll(x, wrongNumbers(), 1, "wrong number, with nothing ");
        }
    }

    // ---- LINES and PAGES

    /** "with HYPHEN in front of the LINE's last CELL, .. as often as what is left is longer than a LINE". */
    private static void linesOfEveryWidth() {
        for (int width = 4; width <= 40; width++) {
            for (int many : new int[] {1, width - 1, width, width + 1, 2 * width - 2, 2 * width - 1,
                2 * width, 2 * width + 1, 3 * width - 3, 3 * width - 2, 3 * width - 1, 3 * width,
                3 * width + 1}) {
                aPiece(width, many, false);
                aPiece(width, many, true);
            }
        }
    }

    private static void aPiece(int width, int many, boolean hyphen) {
        String press = "line " + width + ";rule a cells 1;" + (hyphen ? "hyphen 63;" : "");
        RaisedPress x = Kit.written(press, "a".repeat(many));
        int onEach = hyphen ? width - 1 : width;
        int broken = Math.max(0, (many - width + onEach - 1) / onEach);
        String of = " of " + many + " CELLS in LINES of " + width + (hyphen ? ", HYPHEN" : "");
        KIT.promise(19);
        KIT.told(x, "size(1)" + of, x.size(1), broken + 1);
        KIT.told(x, "size(0)" + of, x.size(0), many);
        KIT.told(x, "size(3)" + of, x.size(3), 1);
        KIT.promise(24);
        KIT.told(x, "hyphens()" + of, x.hyphens(), hyphen ? broken : 0);
        for (int l = 0; l <= broken; l++) {
            int length = l < broken ? width : many - broken * onEach;
            KIT.promise(21);
            KIT.told(x, "line(" + l + ")" + of, x.line(l), length);
            KIT.promise(22);
            KIT.told(x, "lineAt() of the last" + of, x.lineAt(l, length - 1),
                hyphen && l < broken ? 63 : 1);
            KIT.refused(x, "lineAt() behind the last" + of, x.lineAt(l, length), 6);
            KIT.promise(37);
            KIT.told(x, "inLine(" + l + ")" + of, x.inLine(l), 1);
            KIT.promise(38);
            KIT.told(x, "wasted(" + l + ")" + of, x.wasted(l), width - length);
        }
        KIT.promise(21);
        KIT.refused(x, "line() behind the last" + of, x.line(broken + 1), 6);
        KIT.promise(47);
        if (many > width) {
            KIT.refused(x, "leastRagged()" + of, x.leastRagged(), 7);
        } else {
            KIT.told(x, "leastRagged()" + of, x.leastRagged(), 0);
        }
        KIT.promise(46);
        KIT.told(x, "ragged()" + of, x.ragged(), 0);
    }

    /** "as many as go into a LINE"; "what is left begins the next LINE, on which others may follow". */
    private static void pieceBesidePiece() {
        KIT.promise(21);
        for (int width : new int[] {4, 5, 39, 40}) {
            for (int first = 1; first <= 2 * width; first++) {
                int left = first <= width ? first : first - width;
                for (int room = -1; room <= 1; room++) {
                    int second = width - left - 1 + room;
                    if (second < 1) {
                        continue;
                    }
                    RaisedPress x = Kit.written("line " + width + ";rule a cells 1;",
                        "a".repeat(first) + " " + "a".repeat(second));
                    int before = first <= width ? 0 : 1;
                    String of = " of " + first + " and " + second + " in " + width;
                    KIT.told(x, "size(1)" + of, x.size(1), before + (room > 0 ? 2 : 1));
                    KIT.told(x, "line()" + of, x.line(before),
                        room > 0 ? left : left + 1 + second);
                    KIT.told(x, "piece(1, 1)" + of, x.piece(1, 1), before + (room > 0 ? 1 : 0));
                    KIT.told(x, "piece(1, 0)" + of, x.piece(1, 0), second);
                    KIT.told(x, "inLine()" + of, x.inLine(before), room > 0 ? 1 : 2);
                }
            }
        }
        // One that is longer than a LINE begins a new one, though a part of it would go.
        KIT.same("LINES", Kit.lines(Kit.written("line 4;rule a cells 1;rule b cells 2;",
            "a bbbbb")), "1 | 2 2 2 2 | 2");
        KIT.same("LINES", Kit.lines(Kit.written("line 4;hyphen 9;rule a cells 1;rule b cells 2;",
            "a bbbbb a")), "1 | 2 2 2 9 | 2 2 0 1");
        KIT.same("LINES", Kit.lines(Kit.written("line 4;hyphen 9;rule a cells 1;rule b cells 2;",
            "bbbbb bbbbb")), "2 2 2 9 | 2 2 | 2 2 2 9 | 2 2");
    }

    /** "PAGES of so many LINES". */
    private static void pagesOfEverySize() {
        KIT.promise(19);
        for (int page = 2; page <= 30; page++) {
            for (int lines : new int[] {1, page - 1, page, page + 1, 2 * page - 1, 2 * page,
                2 * page + 1}) {
                RaisedPress x = Kit.written("line 4;page " + page + ";rule a cells 1;",
                    "a".repeat(4 * lines));
                String of = " of " + lines + " LINES, " + page + " on a PAGE";
                int pages = lines <= page ? 1 : lines <= 2 * page ? 2 : 3;
                KIT.told(x, "size(1)" + of, x.size(1), lines);
                KIT.told(x, "size(2)" + of, x.size(2), pages);
                int last = (lines - 1) % page;
                KIT.promise(23);
                KIT.told(x, "onPage() at the end" + of, x.onPage(pages - 1, last, 3), 1);
                KIT.refused(x, "onPage() behind the last LINE" + of, x.onPage(pages - 1, last + 1, 3),
                    last + 1 == page ? 1 : 6);
                KIT.refused(x, "onPage() behind the last PAGE" + of, x.onPage(pages, 0, 0), 6);
                KIT.promise(19);
            }
        }
    }

    /** "(1: a place no LINE has, a LINE no PAGE has; 6: no such PAGE, LINE on it)". */
    private static void pagePlaces() {
        KIT.promise(23);
        for (int width : new int[] {4, 40}) {
            for (int page : new int[] {2, 4, 16, 30}) {
                RaisedPress x = Kit.written("line " + width + ";page " + page + ";rule a cells 1;",
                    "a".repeat(width + 1));
                KIT.told(x, "onPage(0, 0, last)", x.onPage(0, 0, width - 1), 1);
                KIT.told(x, "onPage(0, 1, 0)", x.onPage(0, 1, 0), 1);
                KIT.told(x, "onPage(0, 1, 1) behind its last CELL", x.onPage(0, 1, 1), 0);
                KIT.told(x, "onPage(0, 1, last)", x.onPage(0, 1, width - 1), 0);
                KIT.refused(x, "onPage(0, 0, width)", x.onPage(0, 0, width), 1);
                KIT.refused(x, "onPage(0, page, 0)", x.onPage(0, page, 0), 1);
                KIT.refused(x, "onPage(9, page, 0): 1 ahead of 6", x.onPage(9, page, 0), 1);
                KIT.refused(x, "onPage(9, 0, width): 1 ahead of 6", x.onPage(9, 0, width), 1);
                KIT.refused(x, "onPage(-1, 0, -1): 1 ahead of 6", x.onPage(-1, 0, -1), 1);
                KIT.refused(x, "onPage(-1, 0, 0)", x.onPage(-1, 0, 0), 6);
                if (page > 2) {
                    KIT.refused(x, "onPage(0, 2, 0)", x.onPage(0, 2, 0), 6);
                    KIT.refused(x, "onPage(0, page - 1, 0)", x.onPage(0, page - 1, 0), 6);
                }
                // A PAGE whose LINES' numbers go over: 2^32 by 2, 4, 16.
                for (int far : new int[] {1 << 31, 1 << 30, 1 << 29, 1 << 28, (1 << 30) + 1, 143165577,
                    Integer.MAX_VALUE, Integer.MIN_VALUE}) {
                    KIT.refused(x, "onPage(" + far + ", 0, 0)", x.onPage(far, 0, 0), 6);
                    KIT.refused(x, "onPage(" + far + ", 1, 0)", x.onPage(far, 1, 0), 6);
                }
            }
        }
    }

    // ---- RULES and what is SET

    /** All 24 RULES: the sets have as many bits, the counts no end too soon. */
    private static void fullTable() {
        RaisedPress x = Kit.written("number 63;" + alphabet(24), "bdx");
        int all = (1 << 24) - 1;
        KIT.promise(26);
        KIT.told(x, "useless()", x.useless(), all - (1 << 1) - (1 << 3) - (1 << 23));
        for (int r = 0; r < 24; r++) {
            KIT.promise(25);
            KIT.told(x, "used(r)", x.used(r), r == 1 || r == 3 || r == 23 ? 1 : 0);
            KIT.promise(43);
            KIT.told(x, "covers(r)", x.covers(r), r == 1 || r == 3 || r == 23 ? 1 : 0);
            KIT.promise(30);
            if (r == 1 || r == 3 || r == 23) {
                KIT.refused(x, "saving(r)", x.saving(r), 7);
            } else {
                KIT.told(x, "saving(r)", x.saving(r), 0);
            }
        }
        KIT.promise(31);
        KIT.told(x, "cheapest()", x.cheapest(), 0);
        KIT.promise(26);
        x.drop(22, true);
        x.drop(23, true);
        KIT.told(x, "useless() with two DROPPED", x.useless(), (1 << 22) - 1 - (1 << 1) - (1 << 3));
        KIT.promise(25);
        KIT.told(x, "used(23) of a DROPPED one", x.used(23), 1);
        KIT.promise(43);
        KIT.told(x, "covers(23) of a DROPPED one", x.covers(23), 0);
        KIT.promise(25);
        Kit.press(x, "number 9;" + alphabet(10));
        Kit.writing(x, "a1 0 11");
        KIT.told(x, "used(0), by digits, too", x.used(0), 4);
        KIT.told(x, "used(9), by 0", x.used(9), 1);
        KIT.promise(19);
        KIT.told(x, "size(4)", x.size(4), 5);
    }

    /** "(6: there was none; 7: it has a FAULT now: what was SET stays)". */
    private static void resets() {
        KIT.promise(18);
        RaisedPress x = new RaisedPress();
        KIT.refused(x, "reset() of a new object", x.reset(), 6);
        Kit.writing(x, "a");
        KIT.refused(x, "reset() behind a FAULT", x.reset(), 6);
        x.writing(0);
        KIT.told(x, "reset() of no bytes", x.reset(), 0);
        RaisedPress y = Kit.written(TABLE, TEXT);
        for (int r = 0; r < 3; r++) {
            y.drop(r, true);
            KIT.refused(y, "reset() without RULE " + r, y.reset(), 7);
            KIT.same("LINES as they were", Kit.lines(y),
                "32 9 1 5 | 60 1 3 | 5 5 5 9 1 36 | 1 5 0 3");
            KIT.told(y, "used(3)", y.used(3), 5);
            y.drop(r, false);
        }
        KIT.told(y, "reset() by all RULES again", y.reset(), 18);
        // Signs are gone with another PRESS: FAULTS 5 and 4.
        Kit.press(y, "number 1;rule a cells 1;rule b cells 1;rule c cells 1;");
        KIT.refused(y, "reset() without CAPITAL", y.reset(), 7);
        Kit.press(y, "capital 1;rule a cells 1;rule b cells 1;rule c cells 1;");
        KIT.refused(y, "reset() without NUMBER", y.reset(), 7);
        KIT.refused(y, "size(0): nothing is SET", y.size(0), 6);
        Kit.press(y, "capital 1;number 1;rule a cells 1;rule b cells 1;rule c cells 1;");
        KIT.told(y, "reset()", y.reset(), 21);
    }

    /** "How many CELLS more .. (less, too)"; "STATUS tells NONE from -1". */
    private static void savings() {
        RaisedPress x = Kit.written("rule ab cells 1 2 3;rule a cells 1;rule b cells 1;", "ab");
        KIT.promise(30);
        KIT.told(x, "saving(0), -1", x.saving(0), -1);
        KIT.promise(39);
        KIT.told(x, "saved(), -1", x.saved(), -1);
        KIT.promise(30);
        Kit.writing(x, "a");
        KIT.told(x, "saving(0), not used", x.saving(0), 0);
        KIT.refused(x, "saving(1)", x.saving(1), 7);
        KIT.told(x, "saving(2)", x.saving(2), 0);
        x.drop(1, true);
        KIT.refused(x, "saving(1) when it can't be SET", x.saving(1), 7);
        KIT.refused(x, "saving(2) when it can't be SET", x.saving(2), 7);
        KIT.refused(x, "saving(3): 1 ahead of 7", x.saving(3), 1);
        KIT.promise(39);
        KIT.refused(x, "saved() without a RULE that is just a", x.saved(), 7);
        KIT.promise(28);
        KIT.refused(x, "plain() without a RULE that is just a", x.plain(), 7);
        // As what is SET once, and by the RULES as they are: both may be unlike.
        RaisedPress y = Kit.written("rule ab cells 1;rule a cells 1 2;rule b cells 1 2 3;", "ab");
        y.drop(0, true);
        KIT.promise(30);
        KIT.told(y, "saving(0) of a DROPPED one", y.saving(0), 0);
        KIT.promise(39);
        KIT.told(y, "saved() of what is SET", y.saved(), 4);
        KIT.promise(29);
        KIT.told(y, "fewest() by the RULES as they are", y.fewest(), 5);
        y.drop(0, false);
        KIT.told(y, "fewest() with the RULE again", y.fewest(), 1);
        KIT.promise(30);
        KIT.told(y, "saving(0)", y.saving(0), 4);
        KIT.promise(31);
        RaisedPress z = Kit.written("rule a cells 1;", "a");
        KIT.refused(z, "cheapest() of one RULE", z.cheapest(), 6);
        Kit.writing(z, " ");
        KIT.told(z, "cheapest() of one RULE, of nothing", z.cheapest(), 0);
        z.drop(0, true);
        KIT.refused(z, "cheapest() of none, of nothing", z.cheapest(), 6);
    }

    /** "so many CELLS (1 to 40) (1; 6: nothing was SET; 7: there are not so many)". */
    private static void denseEdges() {
        KIT.promise(34);
        for (int many : new int[] {0, 1, 39, 40, 41}) {
            RaisedPress x = Kit.written("rule a cells 63;rule b cells 1;", "a".repeat(many));
            for (int k = 1; k <= 40; k++) {
                if (k <= many) {
                    KIT.told(x, "dense(" + k + ") of " + many, x.dense(k), 6 * k);
                } else {
                    KIT.refused(x, "dense(" + k + ") of " + many, x.dense(k), 7);
                }
            }
            KIT.refused(x, "dense(0)", x.dense(0), 1);
            KIT.refused(x, "dense(41)", x.dense(41), 1);
        }
        // The window at the beginning, within, at the end.
        for (int at = 0; at <= 8; at++) {
            String text = "b".repeat(at) + "aa" + "b".repeat(8 - at);
            RaisedPress x = Kit.written("rule a cells 63;rule b cells 1;", text);
            KIT.told(x, "dense(1) of " + text, x.dense(1), 6);
            KIT.told(x, "dense(2) of " + text, x.dense(2), 12);
            KIT.told(x, "dense(3) of " + text, x.dense(3), 13);
            KIT.told(x, "dense(10) of " + text, x.dense(10), 20);
        }
        // Side by side as they are SET: blanks have no dots, LINES do not part them.
        RaisedPress y = Kit.written("line 4;rule a cells 63;hyphen 63;", "aaa aa");
        KIT.told(y, "dense(5)", y.dense(5), 24);
        KIT.told(y, "dense(6)", y.dense(6), 30);
    }

    /** "how often a CELL is among those SET (0: blanks)"; "of several the least". */
    private static void everyCell() {
        for (int cell = 1; cell <= 63; cell++) {
            int other = cell % 63 + 1;
            RaisedPress x = Kit.written("rule a cells " + cell + ";rule b cells " + other + ";",
                "aa b");
            KIT.promise(44);
            KIT.told(x, "often(" + cell + ")", x.often(cell), 2);
            KIT.told(x, "often(" + other + ")", x.often(other), 1);
            KIT.told(x, "often(0)", x.often(0), 1);
            KIT.promise(45);
            KIT.told(x, "commonest()", x.commonest(), cell);
            Kit.writing(x, "a b a b b a");
            KIT.told(x, "commonest(), the least of two", x.commonest(), Math.min(cell, other));
            KIT.promise(27);
            KIT.told(x, "dots()", x.dots(), 3 * Integer.bitCount(cell) + 3 * Integer.bitCount(other));
            KIT.promise(33);
            KIT.told(x, "by(0)", x.by(0), 0);
            KIT.refused(x, "by(1) of a blank", x.by(1), 6);
        }
    }

    /** "the letter, small or great, that stands most often in the WRITING, of several the first". */
    private static void letterCounts() {
        KIT.promise(40);
        String press = "capital 1;number 2;rule a cells 1;rule m cells 2;rule z cells 3;"
            + "rule am cells 4;";
        String[] texts = {"a", "A", "z", "Z", "zm", "aZz", "mMzZ", "zzzmmaa", "zZmMaA", "1z", "11111 z",
            "amam z", "ammz amz"};
        int[] due = {1, 1, 26, 26, 13, 26, 13, 26, 1, 26, 26, 1, 13};
        for (int k = 0; k < texts.length; k++) {
            RaisedPress x = Kit.written(press, texts[k]);
            KIT.told(x, "frequent() of " + texts[k], x.frequent(), due[k]);
        }
        RaisedPress x = Kit.written(press, "1 11");
        KIT.refused(x, "frequent() without a letter", x.frequent(), 6);
        Kit.writing(x, "Z".repeat(300));
        KIT.told(x, "frequent() of 300", x.frequent(), 26);
        KIT.promise(42);
        KIT.told(x, "signs(0) of 300", x.signs(0), 300);
        KIT.told(x, "signs(1) of none", x.signs(1), 0);
        Kit.writing(x, "1 ".repeat(150));
        KIT.told(x, "signs(1) of 150", x.signs(1), 150);
        Kit.writing(x, "1a1A1 11");
        KIT.told(x, "signs(0)", x.signs(0), 1);
        KIT.told(x, "signs(1)", x.signs(1), 4);
        // The WRITING that is SET, not the one that was refused.
        Kit.writing(x, "AAAA1#");
        KIT.told(x, "signs(0) behind a FAULT", x.signs(0), 1);
    }

    /** "of all LINES but the last"; "(in order, none broken; each LINE no longer than a LINE)". */
    private static void raggedEdges() {
        String press = "line 4;rule a cells 1;";
        String[] texts = {"a", "aaaa", "a aaaa", "aaaa a", "aa aaa", "aaa aa a", "a aa aaa a",
            "a a aa aaaa", "aaaa aaaa aaaa", "aa a aaaa a", "aa aa aa aaaa"};
        // 1 | 4; 2 | 3; 3 | 2 1; 1 2 | 3 | 1; 1 1 | 2 | 4 ahead of 1 | 1 2 | 4 ..
        int[] ragged = {0, 0, 9, 0, 4, 1, 1, 5, 0, 0, 12};
        int[] least = {0, 0, 9, 0, 4, 1, 1, 5, 0, 0, 12};
        for (int k = 0; k < texts.length; k++) {
            RaisedPress x = Kit.written(press, texts[k]);
            KIT.promise(46);
            KIT.told(x, "ragged() of " + texts[k], x.ragged(), ragged[k]);
            KIT.promise(47);
            KIT.told(x, "leastRagged() of " + texts[k], x.leastRagged(), least[k]);
        }
        RaisedPress x = Kit.written("line 6;rule a cells 1;", "aaa aa aa aaaaa");
        KIT.promise(46);
        KIT.told(x, "ragged(): 3 2 | 2 | 5", x.ragged(), 16);
        KIT.promise(47);
        KIT.told(x, "leastRagged(): 3 | 2 2 | 5", x.leastRagged(), 10);
        for (String text : new String[] {"aaaaa", "a aaaaa", "aaaaa a", "a aaaaa a"}) {
            RaisedPress y = Kit.written("line 4;rule a cells 1;", text);
            KIT.refused(y, "leastRagged() of " + text, y.leastRagged(), 7);
        }
        // A broken PIECE's LINES: full ones, and what is left of it.
        RaisedPress y = Kit.written("line 4;hyphen 2;rule a cells 1;", "aaaaa aaaa a");
        KIT.promise(46);
        KIT.told(y, "ragged(): 4 | 2 | 4 | 1", y.ragged(), 4);
        // By how many CELLS a LINE has now, as it was told by the PRESS.
        Kit.press(y, "line 40;rule a cells 1;");
        y.reset();
        KIT.told(y, "ragged() of one LINE", y.ragged(), 0);
        KIT.promise(38);
        KIT.told(y, "wasted(0)", y.wasted(0), 28);
    }

    /** "ALIKE of two LINES: at how many places they have the same CELL"; PIECES of a LINE, in part, too. */
    private static void lineCounts() {
        RaisedPress x = Kit.written("line 4;hyphen 9;rule a cells 1;rule b cells 9;",
            "aaab bb a aaaab aa b");
        KIT.same("LINES", Kit.lines(x), "1 1 1 9 | 9 9 0 1 | 1 1 1 9 | 1 9 | 1 1 0 9");
        int[][] alike = {{4, 0, 4, 1, 3}, {0, 4, 0, 1, 1}, {4, 0, 4, 1, 3}, {1, 1, 1, 2, 1},
            {3, 1, 3, 1, 4}};
        int[] pieces = {1, 2, 1, 1, 2};
        for (int a = 0; a < 5; a++) {
            KIT.promise(35);
            for (int b = 0; b < 5; b++) {
                KIT.told(x, "alike(" + a + ", " + b + ")", x.alike(a, b), alike[a][b]);
            }
            KIT.promise(37);
            KIT.told(x, "inLine(" + a + ")", x.inLine(a), pieces[a]);
        }
        KIT.promise(24);
        KIT.told(x, "hyphens(), not what is like them", x.hyphens(), 1);
        KIT.promise(36);
        KIT.told(x, "longest()", x.longest(), 3);
        Kit.writing(x, "aa bb a bb");
        KIT.told(x, "longest(), of several the first", x.longest(), 0);
        Kit.writing(x, "a bb b bb");
        KIT.told(x, "longest(), of several the first", x.longest(), 1);
        KIT.promise(41);
        KIT.told(x, "pieceOf(5)", x.pieceOf(5), 2);
        KIT.refused(x, "pieceOf(1), a blank", x.pieceOf(1), 6);
        KIT.refused(x, "pieceOf(6), a blank", x.pieceOf(6), 6);
        KIT.told(x, "pieceOf(8)", x.pieceOf(8), 3);
        KIT.refused(x, "pieceOf(9)", x.pieceOf(9), 6);
    }
}

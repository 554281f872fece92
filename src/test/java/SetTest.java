/** Promises 18 to 47: what is SET, its LINES and PAGES, PIECES, and what it could be. */
public final class SetTest {

    private static final Kit KIT = Kit.start();

    /** RULES 0 (a), 1 (b), 2 (c), 3 (ab). */
    private static final String TABLE = "capital 32;number 60;hyphen 36;line 6;page 2;"
        + "rule a cells 1;rule b cells 3;rule c cells 9 1;rule ab cells 5;";

    /**
     * Its CELLS: 32 9 1 5 0 60 1 3 0 5 5 5 9 1 1 5 0 3, its LINES: 32 9 1 5, then 60 1 3, then
     * 5 5 5 9 1 36, then 1 5 0 3.
     */
    private static final String TEXT = "Cab 12 abababcaab b";

    private SetTest() {
    }

    public static void main(String[] args) {
        reset();
        resetBehindPress();
        size();
        cell();
        line();
        lineAt();
        moreLines();
        onPage();
        hyphens();
        used();
        useless();
        dots();
        plain();
        fewest();
        saving();
        cheapest();
        piece();
        by();
        dense();
        alike();
        longest();
        inLine();
        wasted();
        saved();
        frequent();
        pieceOf();
        signs();
        covers();
        often();
        commonest();
        ragged();
        leastRagged();
        KIT.end("SetTest");
    }

    private static RaisedPress set() {
        return Kit.written(TABLE, TEXT);
    }

    /** RULES, but nothing SET. */
    private static RaisedPress notSet() {
        return Kit.pressed(TABLE);
    }

    /** A WRITING of letters a (CELL 1) and b (CELL 3) alone, in LINES of a width. */
    private static RaisedPress simple(int width, String more, String text) {
        return Kit.written("line " + width + ";" + more + "rule a cells 1;rule b cells 3;", text);
    }

    private static void reset() {
        KIT.promise(18);
        RaisedPress x = set();
        x.drop(3, true);
        KIT.told(x, "size(0) ahead of reset()", x.size(0), 18);
        KIT.told(x, "reset()", x.reset(), 23);
        KIT.told(x, "size(0)", x.size(0), 23);
        KIT.told(x, "used(3)", x.used(3), 0);
        x.drop(0, true);
        KIT.refused(x, "reset() with a FAULT", x.reset(), 7);
        KIT.told(x, "size(0): what was SET stays", x.size(0), 23);
        KIT.told(x, "used(0): what was SET stays", x.used(0), 7);
        x.drop(0, false);
        x.drop(3, false);
        KIT.told(x, "reset()", x.reset(), 18);
        RaisedPress y = notSet();
        KIT.refused(y, "reset() without a WRITING", y.reset(), 6);
        Kit.writing(y, "abx");
        KIT.refused(y, "reset() behind a WRITING with a FAULT", y.reset(), 6);
        Kit.writing(y, "");
        KIT.told(y, "reset() of no bytes", y.reset(), 0);
        Kit.writing(y, "ab");
        Kit.writing(y, "abx");
        KIT.told(y, "reset() of the latest that was SET", y.reset(), 1);
    }

    private static void resetBehindPress() {
        RaisedPress x = set();
        Kit.press(x, "capital 1;number 2;rule a cells 1;rule b cells 2;rule c cells 3;");
        KIT.refused(x, "size(0) behind press()", x.size(0), 6);
        KIT.told(x, "reset() by the new RULES", x.reset(), 21);
        KIT.same("CELLS", Kit.cells(x), "1 3 1 2 0 2 1 2 0 1 2 1 2 1 2 3 1 1 2 0 2");
    }

    private static void size() {
        KIT.promise(19);
        RaisedPress x = set();
        int[] sizes = {18, 4, 2, 4, 11};
        for (int what = 0; what < 5; what++) {
            KIT.told(x, "size(what)", x.size(what), sizes[what]);
        }
        KIT.refused(x, "size(5)", x.size(5), 1);
        KIT.refused(x, "size(-1)", x.size(-1), 1);
        Kit.writing(x, " ");
        for (int what = 0; what < 5; what++) {
            KIT.told(x, "size(what) of no PIECE", x.size(what), 0);
        }
        RaisedPress y = notSet();
        KIT.refused(y, "size(0)", y.size(0), 6);
        KIT.refused(y, "size(5)", y.size(5), 1);
        // 150 PIECES on 150 LINES of four CELLS, two on a PAGE.
        StringBuilder s = new StringBuilder();
        for (int k = 0; k < 150; k++) {
            s.append("A ");
        }
        RaisedPress z = Kit.written("line 4;page 2;capital 1;rule a cells 2 3 4;", s.toString());
        KIT.told(z, "size(0)", z.size(0), 749);
        KIT.told(z, "size(1)", z.size(1), 150);
        KIT.told(z, "size(2)", z.size(2), 75);
        KIT.told(z, "size(3)", z.size(3), 150);
        // The most CELLS, the most LINES: three CELLS and a HYPHEN on each but the last.
        String most = "A".repeat(300);
        RaisedPress w = Kit.written("line 4;page 2;hyphen 9;capital 1;rule a cells 2 3 4;", most);
        KIT.told(w, "size(0)", w.size(0), 1200);
        KIT.told(w, "size(1)", w.size(1), 400);
        KIT.told(w, "size(2)", w.size(2), 200);
        KIT.told(w, "hyphens()", w.hyphens(), 399);
        KIT.told(w, "line(399)", w.line(399), 3);
        KIT.told(w, "onPage(199, 1, 2)", w.onPage(199, 1, 2), 4);
        w.drop(0, false);
        KIT.told(w, "inLine(399)", w.inLine(399), 1);
    }

    private static void cell() {
        KIT.promise(20);
        RaisedPress x = set();
        int[] cells = {32, 9, 1, 5, 0, 60, 1, 3, 0, 5, 5, 5, 9, 1, 1, 5, 0, 3};
        for (int k = 0; k < 18; k++) {
            KIT.told(x, "cell(k)", x.cell(k), cells[k]);
        }
        KIT.refused(x, "cell(18)", x.cell(18), 6);
        KIT.refused(x, "cell(-1)", x.cell(-1), 6);
        RaisedPress y = notSet();
        KIT.refused(y, "cell(0)", y.cell(0), 6);
        Kit.press(x, TABLE);
        KIT.refused(x, "cell(0) behind press()", x.cell(0), 6);
    }

    private static void line() {
        KIT.promise(21);
        RaisedPress x = set();
        int[] lengths = {4, 3, 6, 4};
        for (int l = 0; l < 4; l++) {
            KIT.told(x, "line(l)", x.line(l), lengths[l]);
        }
        KIT.refused(x, "line(4)", x.line(4), 6);
        KIT.refused(x, "line(-1)", x.line(-1), 6);
        RaisedPress y = notSet();
        KIT.refused(y, "line(0)", y.line(0), 6);
        Kit.press(x, TABLE);
        KIT.refused(x, "line(0) behind press()", x.line(0), 6);
    }

    private static void lineAt() {
        KIT.promise(22);
        RaisedPress x = set();
        KIT.same("LINES", Kit.lines(x), "32 9 1 5 | 60 1 3 | 5 5 5 9 1 36 | 1 5 0 3");
        KIT.refused(x, "lineAt(0, 4)", x.lineAt(0, 4), 6);
        KIT.refused(x, "lineAt(0, -1)", x.lineAt(0, -1), 6);
        KIT.refused(x, "lineAt(2, 6)", x.lineAt(2, 6), 6);
        KIT.refused(x, "lineAt(4, 0)", x.lineAt(4, 0), 6);
        KIT.refused(x, "lineAt(-1, 0)", x.lineAt(-1, 0), 6);
        RaisedPress y = notSet();
        KIT.refused(y, "lineAt(0, 0)", y.lineAt(0, 0), 6);
    }

    private static void inLines(int width, String more, String text, String lines) {
        KIT.same("LINES of " + text, Kit.lines(simple(width, more, text)), lines);
    }

    private static void moreLines() {
        inLines(4, "hyphen 9;", "aabb", "1 1 3 3");
        inLines(4, "hyphen 9;", "aabba", "1 1 3 9 | 3 1");
        inLines(4, "hyphen 9;", "aaabbba", "1 1 1 9 | 3 3 3 1");
        inLines(4, "hyphen 9;", "aaabbbab", "1 1 1 9 | 3 3 3 9 | 1 3");
        inLines(4, "", "aabba", "1 1 3 3 | 1");
        inLines(4, "", "aabbaabb", "1 1 3 3 | 1 1 3 3");
        inLines(4, "", "aabbaabba", "1 1 3 3 | 1 1 3 3 | 1");
        inLines(4, "", "a bb", "1 0 3 3");
        inLines(4, "", "a bbb", "1 | 3 3 3");
        inLines(4, "", "a b a", "1 0 3 | 1");
        inLines(5, "", "a b a", "1 0 3 0 1");
        inLines(4, "", "a aabba b", "1 | 1 1 3 3 | 1 0 3");
        inLines(4, "hyphen 9;", "a aabba b", "1 | 1 1 3 9 | 3 1 0 3");
        inLines(4, "hyphen 9;", "aabba bb", "1 1 3 9 | 3 1 | 3 3");
        inLines(4, "", "aabba aabba", "1 1 3 3 | 1 | 1 1 3 3 | 1");
        inLines(4, "hyphen 3;", "bbb b", "3 3 3 | 3");
    }

    private static void onPage() {
        KIT.promise(23);
        RaisedPress x = set();
        KIT.told(x, "onPage(0, 0, 0)", x.onPage(0, 0, 0), 32);
        KIT.told(x, "onPage(0, 0, 3)", x.onPage(0, 0, 3), 5);
        KIT.told(x, "onPage(0, 0, 4)", x.onPage(0, 0, 4), 0);
        KIT.told(x, "onPage(0, 0, 5)", x.onPage(0, 0, 5), 0);
        KIT.told(x, "onPage(0, 1, 2)", x.onPage(0, 1, 2), 3);
        KIT.told(x, "onPage(1, 0, 5)", x.onPage(1, 0, 5), 36);
        KIT.told(x, "onPage(1, 1, 1)", x.onPage(1, 1, 1), 5);
        KIT.refused(x, "onPage(0, 0, 6)", x.onPage(0, 0, 6), 1);
        KIT.refused(x, "onPage(0, 0, -1)", x.onPage(0, 0, -1), 1);
        KIT.refused(x, "onPage(0, 2, 0)", x.onPage(0, 2, 0), 1);
        KIT.refused(x, "onPage(0, -1, 0)", x.onPage(0, -1, 0), 1);
        KIT.refused(x, "onPage(2, 0, 0)", x.onPage(2, 0, 0), 6);
        KIT.refused(x, "onPage(-1, 0, 0)", x.onPage(-1, 0, 0), 6);
        KIT.refused(x, "onPage(2147483647, 0, 0)", x.onPage(Integer.MAX_VALUE, 0, 0), 6);
        KIT.refused(x, "onPage(9, 2, 0)", x.onPage(9, 2, 0), 1);
        RaisedPress y = simple(4, "page 2;", "aaaaa aaaa");
        KIT.told(y, "onPage(1, 0, 0)", y.onPage(1, 0, 0), 1);
        KIT.refused(y, "onPage(1, 1, 0)", y.onPage(1, 1, 0), 6);
        RaisedPress z = notSet();
        KIT.refused(z, "onPage(0, 0, 0)", z.onPage(0, 0, 0), 6);
        KIT.refused(z, "onPage(0, 0, 6)", z.onPage(0, 0, 6), 1);
    }

    private static void hyphens() {
        KIT.promise(24);
        RaisedPress x = set();
        KIT.told(x, "hyphens()", x.hyphens(), 1);
        // A CELL like HYPHEN at a LINE's end is none.
        RaisedPress y = simple(4, "hyphen 3;", "aaab aaaaaaaaaa");
        KIT.told(y, "hyphens()", y.hyphens(), 2);
        RaisedPress w = simple(4, "", "aaaaaaaaaa");
        KIT.told(w, "hyphens() without HYPHEN", w.hyphens(), 0);
        RaisedPress z = notSet();
        KIT.refused(z, "hyphens()", z.hyphens(), 6);
    }

    private static void used() {
        KIT.promise(25);
        RaisedPress x = set();
        int[] times = {2, 2, 2, 5};
        for (int r = 0; r < 4; r++) {
            KIT.told(x, "used(r)", x.used(r), times[r]);
        }
        KIT.refused(x, "used(4)", x.used(4), 1);
        KIT.refused(x, "used(-1)", x.used(-1), 1);
        x.drop(3, true);
        KIT.told(x, "used(3), DROPPED", x.used(3), 5);
        RaisedPress y = notSet();
        KIT.refused(y, "used(0)", y.used(0), 6);
        KIT.refused(y, "used(4)", y.used(4), 1);
    }

    private static void useless() {
        KIT.promise(26);
        RaisedPress x = set();
        KIT.told(x, "useless()", x.useless(), 0);
        Kit.writing(x, "ab 2");
        KIT.told(x, "useless()", x.useless(), 5);
        x.drop(2, true);
        KIT.told(x, "useless() with a RULE DROPPED", x.useless(), 1);
        x.drop(3, true);
        KIT.told(x, "useless() with another DROPPED", x.useless(), 1);
        RaisedPress y = notSet();
        KIT.refused(y, "useless()", y.useless(), 6);
    }

    private static void dots() {
        KIT.promise(27);
        RaisedPress x = set();
        KIT.told(x, "dots()", x.dots(), 27);
        Kit.writing(x, "");
        KIT.told(x, "dots() of nothing", x.dots(), 0);
        RaisedPress y = Kit.written("rule a cells 63 32;rule b cells 1;", "ab a");
        KIT.told(y, "dots()", y.dots(), 15);
        RaisedPress z = notSet();
        KIT.refused(z, "dots()", z.dots(), 6);
    }

    private static void plain() {
        KIT.promise(28);
        RaisedPress x = set();
        KIT.told(x, "plain()", x.plain(), 23);
        x.drop(3, true);
        KIT.told(x, "plain() without ab", x.plain(), 23);
        x.drop(2, true);
        KIT.refused(x, "plain() without c", x.plain(), 7);
        // A digit's CELLS are as they are SET, without its RULE, too.
        RaisedPress y = Kit.written("number 60;rule a cells 1 2;rule b cells 3;", "b1 11");
        KIT.told(y, "plain()", y.plain(), 10);
        y.drop(0, true);
        KIT.told(y, "plain() without the digit's RULE", y.plain(), 10);
        // RULES with a COND do not count.
        y.drop(0, false);
        Kit.writing(y, "b1 1");
        KIT.told(y, "plain() of the third", y.plain(), 8);
        RaisedPress w = Kit.written("rule a cells 1 begin;rule a cells 1 2 3 end;", "aa");
        KIT.told(w, "size(0)", w.size(0), 4);
        KIT.refused(w, "plain()", w.plain(), 7);
        Kit.writing(w, "");
        KIT.told(w, "plain() of nothing", w.plain(), 0);
        RaisedPress z = notSet();
        KIT.refused(z, "plain()", z.plain(), 6);
    }

    private static void fewest() {
        KIT.promise(29);
        RaisedPress x = set();
        KIT.told(x, "fewest()", x.fewest(), 18);
        x.drop(3, true);
        KIT.told(x, "fewest() without ab", x.fewest(), 23);
        x.drop(0, true);
        KIT.refused(x, "fewest() without a", x.fewest(), 7);
        RaisedPress y = Kit.written("capital 8;rule a cells 1;rule b cells 1;rule c cells 1 1 1;"
            + "rule ab cells 2;rule bc cells 2;", "abc Abc aBc abC");
        // abc, CAPITAL abc, a CAPITAL bc, ab CAPITAL c: 2 + 3 + 3 + 5 and three blanks
        KIT.told(y, "size(0)", y.size(0), 4 + 5 + 3 + 5 + 3);
        KIT.told(y, "fewest()", y.fewest(), 2 + 3 + 3 + 5 + 3);
        y.drop(2, true);
        KIT.refused(y, "fewest() without c", y.fewest(), 7);
        Kit.writing(y, "abc");
        KIT.due("fault(0)", y.fault(0), 3);
        y.drop(2, false);
        Kit.writing(y, "abc");
        y.drop(2, true);
        KIT.refused(y, "fewest(), a bc is not by the longest RULES", y.fewest(), 7);
        KIT.told(y, "size(0): what is SET stays", y.size(0), 4);
        y.drop(3, true);
        KIT.told(y, "fewest() without ab, too", y.fewest(), 2);
        y.drop(4, true);
        KIT.refused(y, "fewest() by no RULES at all", y.fewest(), 7);
        // The longest RULES go into no dead end here, but take more CELLS than a bc.
        RaisedPress t = Kit.written("capital 8;rule ab cells 1 2 3;rule a cells 1;rule bc cells 2;"
            + "rule c cells 4 5 6;", "abc Abc");
        KIT.told(t, "size(0) of abc Abc", t.size(0), 6 + 7 + 1);
        KIT.told(t, "fewest() of abc Abc", t.fewest(), 2 + 3 + 1);
        t.drop(2, true);
        KIT.told(t, "fewest() without bc", t.fewest(), 6 + 7 + 1);
        t.drop(2, false);
        t.drop(3, true);
        KIT.refused(t, "fewest() without c", t.fewest(), 7);
        t.drop(0, true);
        KIT.told(t, "fewest() without c and ab", t.fewest(), 2 + 3 + 1);
        // CONDS count: ab may stand at the beginning alone.
        RaisedPress v = Kit.written("rule ab cells 1 begin;rule abab cells 1 1 1;rule a cells 1 2;"
            + "rule b cells 1 2;", "abab");
        KIT.told(v, "size(0)", v.size(0), 3);
        KIT.told(v, "fewest()", v.fewest(), 3);
        v.drop(1, true);
        KIT.told(v, "fewest()", v.fewest(), 5);
        RaisedPress u = simple(4, "number 60;", "ab".repeat(150));
        KIT.told(u, "fewest() of a WORD of 300", u.fewest(), 300);
        Kit.writing(u, "a".repeat(299) + "1");
        KIT.told(u, "fewest() with a digit at the end", u.fewest(), 301);
        RaisedPress w = Kit.written("number 60;rule a cells 1 2;rule b cells 3;", "b1 11");
        KIT.told(w, "fewest() with FIGURES", w.fewest(), 10);
        w.drop(0, true);
        KIT.refused(w, "fewest() without a digit's RULE", w.fewest(), 7);
        Kit.writing(w, " ");
        KIT.told(w, "fewest() of nothing", w.fewest(), 0);
        RaisedPress z = notSet();
        KIT.refused(z, "fewest()", z.fewest(), 6);
    }

    private static void saving() {
        KIT.promise(30);
        RaisedPress x = set();
        KIT.told(x, "saving(3)", x.saving(3), 5);
        for (int r = 0; r < 3; r++) {
            KIT.refused(x, "saving(r)", x.saving(r), 7);
        }
        KIT.told(x, "size(0): what is SET stays", x.size(0), 18);
        x.drop(3, true);
        KIT.told(x, "saving(3) of a DROPPED one", x.saving(3), 0);
        x.drop(0, true);
        KIT.refused(x, "saving(3) when it can't be SET", x.saving(3), 7);
        KIT.refused(x, "saving(4)", x.saving(4), 1);
        KIT.refused(x, "saving(-1)", x.saving(-1), 1);
        RaisedPress y = Kit.written("rule ab cells 1 2 3;rule a cells 1;rule b cells 1;", "ab");
        KIT.told(y, "saving(0), less", y.saving(0), -1);
        KIT.told(y, "saving(1), not used", y.saving(1), 0);
        RaisedPress z = notSet();
        KIT.refused(z, "saving(0)", z.saving(0), 6);
        KIT.refused(z, "saving(4)", z.saving(4), 1);
    }

    private static void cheapest() {
        KIT.promise(31);
        RaisedPress x = set();
        KIT.told(x, "cheapest()", x.cheapest(), 3);
        RaisedPress y = Kit.written("rule abc cells 1;rule ab cells 2;rule a cells 1;"
            + "rule b cells 1;rule c cells 1;", "abc");
        KIT.told(y, "cheapest(), the first of several", y.cheapest(), 1);
        y.drop(1, true);
        KIT.told(y, "cheapest() of those not DROPPED", y.cheapest(), 2);
        KIT.told(y, "size(0): what is SET stays", y.size(0), 1);
        y.drop(0, true);
        KIT.refused(y, "cheapest(): none such", y.cheapest(), 6);
        y.drop(2, true);
        KIT.refused(y, "cheapest(): it can't be SET, and none such", y.cheapest(), 6);
        y.drop(3, true);
        y.drop(4, true);
        KIT.refused(y, "cheapest() when all are DROPPED", y.cheapest(), 6);
        // ab leads to c, for which there is no RULE; without ab it could be SET: a bc.
        RaisedPress v = Kit.written("rule abc cells 1;rule ab cells 2;rule a cells 1;"
            + "rule bc cells 3;", "abc");
        KIT.told(v, "cheapest(), but not abc", v.cheapest(), 1);
        v.drop(0, true);
        KIT.refused(v, "cheapest(): it can't be SET, but without ab", v.cheapest(), 7);
        v.drop(1, true);
        KIT.refused(v, "cheapest(): a and bc must both be there", v.cheapest(), 6);
        RaisedPress w = Kit.written("rule a cells 1;rule b cells 1;rule ab cells 1 2 3;", "ab");
        KIT.told(w, "cheapest() with a SAVING below 0", w.cheapest(), 2);
        RaisedPress z = notSet();
        KIT.refused(z, "cheapest()", z.cheapest(), 6);
    }

    private static void piece() {
        KIT.promise(32);
        RaisedPress x = set();
        int[] cells = {4, 3, 7, 1};
        int[] lines = {0, 1, 2, 3};
        for (int k = 0; k < 4; k++) {
            KIT.told(x, "piece(k, 0)", x.piece(k, 0), cells[k]);
            KIT.told(x, "piece(k, 1)", x.piece(k, 1), lines[k]);
        }
        KIT.refused(x, "piece(4, 0)", x.piece(4, 0), 6);
        KIT.refused(x, "piece(-1, 1)", x.piece(-1, 1), 6);
        KIT.refused(x, "piece(0, 2)", x.piece(0, 2), 1);
        KIT.refused(x, "piece(9, -1)", x.piece(9, -1), 1);
        RaisedPress y = simple(5, "", "a b aaaaaaaaaaa b");
        KIT.same("LINES", Kit.lines(y), "1 0 3 | 1 1 1 1 1 | 1 1 1 1 1 | 1 0 3");
        KIT.told(y, "piece(1, 1)", y.piece(1, 1), 0);
        KIT.told(y, "piece(2, 0)", y.piece(2, 0), 11);
        KIT.told(y, "piece(2, 1)", y.piece(2, 1), 1);
        KIT.told(y, "piece(3, 1)", y.piece(3, 1), 3);
        RaisedPress z = notSet();
        KIT.refused(z, "piece(0, 0)", z.piece(0, 0), 6);
        KIT.refused(z, "piece(0, 2)", z.piece(0, 2), 1);
    }

    private static void by() {
        KIT.promise(33);
        RaisedPress x = set();
        int[] by = {-1, 2, 2, 3, -1, -1, 0, 1, -1, 3, 3, 3, 2, 2, 0, 3, -1, 1};
        for (int k = 0; k < 18; k++) {
            if (by[k] == -1) {
                KIT.refused(x, "by(" + k + ")", x.by(k), 6);
            } else {
                KIT.told(x, "by(" + k + ")", x.by(k), by[k]);
            }
        }
        KIT.refused(x, "by(18)", x.by(18), 6);
        KIT.refused(x, "by(-1)", x.by(-1), 6);
        RaisedPress z = notSet();
        KIT.refused(z, "by(0)", z.by(0), 6);
    }

    private static void dense() {
        KIT.promise(34);
        RaisedPress x = set();
        KIT.told(x, "dense(1)", x.dense(1), 4);
        KIT.told(x, "dense(2)", x.dense(2), 5);
        KIT.told(x, "dense(3)", x.dense(3), 7);
        KIT.told(x, "dense(18)", x.dense(18), 27);
        KIT.refused(x, "dense(19)", x.dense(19), 7);
        KIT.refused(x, "dense(40)", x.dense(40), 7);
        KIT.refused(x, "dense(41)", x.dense(41), 1);
        KIT.refused(x, "dense(0)", x.dense(0), 1);
        KIT.refused(x, "dense(-1)", x.dense(-1), 1);
        // At the end and at the beginning.
        RaisedPress y = simple(30, "", "aaaabb");
        KIT.told(y, "dense(2)", y.dense(2), 4);
        Kit.writing(y, "bbaaaa");
        KIT.told(y, "dense(3)", y.dense(3), 5);
        Kit.writing(y, "a".repeat(40));
        KIT.told(y, "dense(40)", y.dense(40), 40);
        Kit.writing(y, "");
        KIT.refused(y, "dense(1) of nothing", y.dense(1), 7);
        RaisedPress z = notSet();
        KIT.refused(z, "dense(1)", z.dense(1), 6);
        KIT.refused(z, "dense(41)", z.dense(41), 1);
    }

    private static void alike() {
        KIT.promise(35);
        RaisedPress x = simple(4, "", "aaab aab b a a b");
        KIT.same("LINES", Kit.lines(x), "1 1 1 3 | 1 1 3 | 3 0 1 | 1 0 3");
        KIT.told(x, "alike(0, 1)", x.alike(0, 1), 2);
        KIT.told(x, "alike(1, 0)", x.alike(1, 0), 2);
        KIT.told(x, "alike(0, 0)", x.alike(0, 0), 4);
        KIT.told(x, "alike(2, 3), the blank", x.alike(2, 3), 1);
        KIT.told(x, "alike(1, 3)", x.alike(1, 3), 2);
        KIT.refused(x, "alike(0, 4)", x.alike(0, 4), 6);
        KIT.refused(x, "alike(4, 0)", x.alike(4, 0), 6);
        KIT.refused(x, "alike(-1, 0)", x.alike(-1, 0), 6);
        KIT.refused(x, "alike(0, -1)", x.alike(0, -1), 6);
        RaisedPress w = simple(4, "", "a aaaa a b");
        KIT.same("LINES", Kit.lines(w), "1 | 1 1 1 1 | 1 0 3");
        KIT.told(w, "alike(0, 2): a blank is not like nothing", w.alike(0, 2), 1);
        KIT.told(w, "alike(2, 0)", w.alike(2, 0), 1);
        RaisedPress y = simple(4, "hyphen 36;", "aaaaaabb");
        KIT.told(y, "alike(0, 1) with HYPHENS", y.alike(0, 1), 4);
        KIT.told(y, "alike(0, 2)", y.alike(0, 2), 0);
        RaisedPress z = notSet();
        KIT.refused(z, "alike(0, 0)", z.alike(0, 0), 6);
    }

    private static void longest() {
        KIT.promise(36);
        RaisedPress x = set();
        KIT.told(x, "longest()", x.longest(), 2);
        Kit.writing(x, "a bb aa b");
        KIT.told(x, "longest(), the first of several", x.longest(), 1);
        Kit.writing(x, "ab ab c");
        KIT.told(x, "longest() by CELLS", x.longest(), 2);
        Kit.writing(x, " \n");
        KIT.refused(x, "longest() without a PIECE", x.longest(), 6);
        RaisedPress z = notSet();
        KIT.refused(z, "longest()", z.longest(), 6);
    }

    private static void inLine() {
        KIT.promise(37);
        RaisedPress x = set();
        int[] pieces = {1, 1, 1, 2};
        for (int l = 0; l < 4; l++) {
            KIT.told(x, "inLine(l)", x.inLine(l), pieces[l]);
        }
        KIT.refused(x, "inLine(4)", x.inLine(4), 6);
        KIT.refused(x, "inLine(-1)", x.inLine(-1), 6);
        RaisedPress y = simple(7, "", "a b a b");
        KIT.told(y, "inLine(0)", y.inLine(0), 4);
        RaisedPress z = notSet();
        KIT.refused(z, "inLine(0)", z.inLine(0), 6);
    }

    private static void wasted() {
        KIT.promise(38);
        RaisedPress x = set();
        int[] wasted = {2, 3, 0, 2};
        for (int l = 0; l < 4; l++) {
            KIT.told(x, "wasted(l)", x.wasted(l), wasted[l]);
        }
        KIT.refused(x, "wasted(4)", x.wasted(4), 6);
        KIT.refused(x, "wasted(-1)", x.wasted(-1), 6);
        RaisedPress z = notSet();
        KIT.refused(z, "wasted(0)", z.wasted(0), 6);
    }

    private static void saved() {
        KIT.promise(39);
        RaisedPress x = set();
        KIT.told(x, "saved()", x.saved(), 5);
        x.drop(2, true);
        KIT.refused(x, "saved() without c", x.saved(), 7);
        RaisedPress y = Kit.written("rule ab cells 1 2 3;rule a cells 1;rule b cells 1;", "ab");
        KIT.told(y, "saved() below 0", y.saved(), -1);
        RaisedPress z = notSet();
        KIT.refused(z, "saved()", z.saved(), 6);
    }

    private static void frequent() {
        KIT.promise(40);
        RaisedPress x = set();
        KIT.told(x, "frequent()", x.frequent(), 1);
        Kit.writing(x, "bAbcaC Bccc 1");
        KIT.told(x, "frequent(), small or great", x.frequent(), 3);
        Kit.writing(x, "ba");
        KIT.told(x, "frequent(), the first of several", x.frequent(), 1);
        Kit.writing(x, "11 1");
        KIT.refused(x, "frequent() without a letter", x.frequent(), 6);
        RaisedPress y = Kit.written("capital 1;rule z cells 1;rule b cells 1;rule a cells 1;", "zZ");
        KIT.told(y, "frequent()", y.frequent(), 26);
        Kit.writing(y, "ab b");
        KIT.told(y, "frequent() behind another", y.frequent(), 2);
        Kit.writing(y, "b a");
        KIT.told(y, "frequent() behind another", y.frequent(), 1);
        Kit.writing(y, "zab z b");
        KIT.told(y, "frequent(), the first byte, too", y.frequent(), 2);
        Kit.writing(y, "z az");
        KIT.told(y, "frequent(), the first byte, too", y.frequent(), 26);
        RaisedPress z = notSet();
        KIT.refused(z, "frequent()", z.frequent(), 6);
    }

    private static void pieceOf() {
        KIT.promise(41);
        RaisedPress x = set();
        int[] of = {0, 0, 0, 0, -1, 1, 1, 1, -1, 2, 2, 2, 2, 2, 2, 2, -1, 3};
        for (int k = 0; k < 18; k++) {
            if (of[k] == -1) {
                KIT.refused(x, "pieceOf(" + k + ")", x.pieceOf(k), 6);
            } else {
                KIT.told(x, "pieceOf(" + k + ")", x.pieceOf(k), of[k]);
            }
        }
        KIT.refused(x, "pieceOf(18)", x.pieceOf(18), 6);
        KIT.refused(x, "pieceOf(-1)", x.pieceOf(-1), 6);
        RaisedPress z = notSet();
        KIT.refused(z, "pieceOf(0)", z.pieceOf(0), 6);
    }

    private static void signs() {
        KIT.promise(42);
        RaisedPress x = set();
        KIT.told(x, "signs(0)", x.signs(0), 1);
        KIT.told(x, "signs(1)", x.signs(1), 1);
        Kit.writing(x, "1a22 11b AaBC 1 ");
        KIT.told(x, "signs(0)", x.signs(0), 3);
        KIT.told(x, "signs(1)", x.signs(1), 4);
        Kit.writing(x, "1x");
        KIT.told(x, "signs(1) of what is SET", x.signs(1), 4);
        KIT.refused(x, "signs(2)", x.signs(2), 1);
        KIT.refused(x, "signs(-1)", x.signs(-1), 1);
        Kit.writing(x, "aA1");
        Kit.writing(x, "a");
        KIT.told(x, "signs(0) behind another", x.signs(0), 0);
        KIT.told(x, "signs(1) behind another", x.signs(1), 0);
        Kit.writing(x, "");
        KIT.told(x, "signs(0)", x.signs(0), 0);
        KIT.told(x, "signs(1)", x.signs(1), 0);
        RaisedPress z = notSet();
        KIT.refused(z, "signs(0)", z.signs(0), 6);
        KIT.refused(z, "signs(2)", z.signs(2), 1);
    }

    private static void covers() {
        KIT.promise(43);
        RaisedPress x = Kit.written("capital 1;number 2;rule a cells 1;rule b cells 1;"
            + "rule ab cells 1 begin;rule ab cells 1 end;rule ab cells 1 alone;"
            + "rule ab cells 1 middle;rule ba cells 1;rule a cells 1 alone;",
            "ab Ab aB ababab ba1a12");
        // ab and Ab alone; of ababab one at the beginning, one in the middle, one at the end.
        int[] covers = {8, 7, 1, 1, 2, 1, 3, 1};
        for (int r = 0; r < 8; r++) {
            KIT.told(x, "covers(" + r + ")", x.covers(r), covers[r]);
        }
        x.drop(0, true);
        KIT.told(x, "covers(0) of a DROPPED one", x.covers(0), 0);
        KIT.told(x, "covers(6)", x.covers(6), 3);
        KIT.refused(x, "covers(8)", x.covers(8), 1);
        KIT.refused(x, "covers(-1)", x.covers(-1), 1);
        RaisedPress z = notSet();
        KIT.refused(z, "covers(0)", z.covers(0), 6);
        KIT.refused(z, "covers(4)", z.covers(4), 1);
    }

    private static void often() {
        KIT.promise(44);
        RaisedPress x = set();
        KIT.told(x, "often(0)", x.often(0), 3);
        KIT.told(x, "often(1)", x.often(1), 4);
        KIT.told(x, "often(5)", x.often(5), 5);
        KIT.told(x, "often(60)", x.often(60), 1);
        KIT.told(x, "often(36), HYPHEN", x.often(36), 0);
        KIT.told(x, "often(63)", x.often(63), 0);
        KIT.refused(x, "often(64)", x.often(64), 1);
        KIT.refused(x, "often(-1)", x.often(-1), 1);
        RaisedPress y = Kit.written("rule a cells 63 63;", "aa");
        KIT.told(y, "often(63)", y.often(63), 4);
        RaisedPress z = notSet();
        KIT.refused(z, "often(0)", z.often(0), 6);
        KIT.refused(z, "often(64)", z.often(64), 1);
    }

    private static void commonest() {
        KIT.promise(45);
        RaisedPress x = set();
        KIT.told(x, "commonest()", x.commonest(), 5);
        RaisedPress y = Kit.written("rule a cells 63;rule b cells 9;rule c cells 8;", "a b");
        KIT.told(y, "commonest(), the least of several", y.commonest(), 9);
        Kit.writing(y, "a a b b a");
        KIT.told(y, "commonest(), blanks aside", y.commonest(), 63);
        Kit.writing(y, " ");
        KIT.refused(y, "commonest() of nothing", y.commonest(), 6);
        RaisedPress z = notSet();
        KIT.refused(z, "commonest()", z.commonest(), 6);
        Kit.press(x, TABLE);
        KIT.refused(x, "commonest() behind press()", x.commonest(), 6);
    }

    private static void ragged() {
        KIT.promise(46);
        RaisedPress x = set();
        KIT.told(x, "ragged()", x.ragged(), 13);
        RaisedPress y = simple(6, "", "aaa aa aa aaaaa");
        KIT.told(y, "ragged()", y.ragged(), 16);
        Kit.writing(y, "a");
        KIT.told(y, "ragged() of one LINE", y.ragged(), 0);
        Kit.writing(y, "");
        KIT.told(y, "ragged() of none", y.ragged(), 0);
        RaisedPress z = notSet();
        KIT.refused(z, "ragged()", z.ragged(), 6);
    }

    private static void leastRagged() {
        KIT.promise(47);
        RaisedPress x = set();
        KIT.refused(x, "leastRagged() with a long PIECE", x.leastRagged(), 7);
        RaisedPress y = simple(6, "", "aaa aa aa aaaaa");
        KIT.told(y, "leastRagged()", y.leastRagged(), 10);
        Kit.writing(y, "aaaaaa aaaaaa aaaaaa");
        KIT.told(y, "leastRagged() of full LINES", y.leastRagged(), 0);
        Kit.writing(y, "aaaaa a a aaaaaa");
        // 5 | 1 0 1 | 6 is 1 + 9; there is no other.
        KIT.told(y, "leastRagged()", y.leastRagged(), 10);
        Kit.writing(y, "aa aa aaaa a");
        // 2 0 2 | 4 0 1: 1; the last LINE does not count.
        KIT.told(y, "leastRagged()", y.leastRagged(), 1);
        Kit.writing(y, "a ".repeat(150));
        // 150 PIECES, three on each of 50 LINES of 5 CELLS.
        KIT.told(y, "leastRagged() of 150 PIECES", y.leastRagged(), 49);
        Kit.writing(y, " ");
        KIT.told(y, "leastRagged() of none behind it", y.leastRagged(), 0);
        Kit.writing(y, "aaaaaaa");
        KIT.refused(y, "leastRagged() with a long PIECE", y.leastRagged(), 7);
        Kit.writing(y, "a aaaaaaa");
        KIT.refused(y, "leastRagged() with a long PIECE", y.leastRagged(), 7);
        Kit.writing(y, "aaa");
        KIT.told(y, "leastRagged() of one LINE", y.leastRagged(), 0);
        Kit.writing(y, "");
        KIT.told(y, "leastRagged() of none", y.leastRagged(), 0);
        RaisedPress z = notSet();
        KIT.refused(z, "leastRagged()", z.leastRagged(), 6);
    }
}

/** Promises 66 and 67: MARKS. */
public final class MarksTest {

    private static final Kit KIT = Kit.start();
    private static final String TABLE = "capital 9;hyphen 36;line 4;page 2;rule ab cells 5 6;"
        + "rule a cells 1;rule b cells 3;";

    private MarksTest() {
    }

    public static void main(String[] args) {
        mark();
        back();
        whatIsSet();
        whatIsNotKept();
        KIT.end("MarksTest");
    }

    private static void mark() {
        KIT.promise(66);
        RaisedPress x = new RaisedPress();
        KIT.told(x, "mark()", x.mark(), 1);
        KIT.told(x, "mark()", x.mark(), 2);
        KIT.told(x, "mark()", x.mark(), 3);
        KIT.refused(x, "mark() once more", x.mark(), 4);
        KIT.told(x, "back()", x.back(), 2);
        KIT.told(x, "mark()", x.mark(), 3);
        KIT.refused(x, "mark() once more", x.mark(), 4);
    }

    private static void back() {
        KIT.promise(67);
        RaisedPress x = new RaisedPress();
        KIT.refused(x, "back() without MARKS", x.back(), 6);
        x.mark();
        Kit.press(x, TABLE);
        x.mark();
        Kit.writing(x, "abab");
        x.drop(0, true);
        x.mark();
        x.reset();
        x.drop(1, true);
        Kit.press(x, "number 8;rule c cells 1 2 3 begin;");
        Kit.writing(x, "cc");
        KIT.told(x, "back() to the third", x.back(), 2);
        KIT.told(x, "told(0)", x.told(0), 3);
        KIT.told(x, "told(1)", x.told(1), 9);
        KIT.refused(x, "told(2)", x.told(2), 6);
        KIT.told(x, "told(3)", x.told(3), 36);
        KIT.told(x, "told(4)", x.told(4), 4);
        KIT.told(x, "told(5)", x.told(5), 2);
        KIT.told(x, "told(6)", x.told(6), 1);
        KIT.told(x, "letter(0, 1)", x.letter(0, 1), 2);
        KIT.told(x, "cellOf(0, 1)", x.cellOf(0, 1), 6);
        KIT.told(x, "rule(0, 2)", x.rule(0, 2), 0);
        KIT.same("CELLS as they were SET", Kit.cells(x), "5 6 5 6");
        KIT.told(x, "used(0)", x.used(0), 2);
        KIT.told(x, "size(1)", x.size(1), 1);
        KIT.told(x, "reset()", x.reset(), 4);
        KIT.same("CELLS by the RULES that were there", Kit.cells(x), "1 3 1 3");
        KIT.told(x, "back() to the second", x.back(), 1);
        KIT.told(x, "told(6)", x.told(6), 0);
        KIT.told(x, "told(0)", x.told(0), 3);
        KIT.refused(x, "size(0): nothing was SET", x.size(0), 6);
        KIT.refused(x, "reset(): there was no WRITING", x.reset(), 6);
        KIT.told(x, "back() to the first", x.back(), 0);
        KIT.told(x, "told(0)", x.told(0), 0);
        KIT.told(x, "told(4)", x.told(4), 32);
        KIT.refused(x, "back() without MARKS", x.back(), 6);
    }

    private static void whatIsSet() {
        RaisedPress x = Kit.written(TABLE, "ab Ab aaaaaa");
        String lines = "5 6 | 9 5 6 | 1 1 1 36 | 1 1 1";
        KIT.same("LINES", Kit.lines(x), lines);
        x.mark();
        x.drop(1, true);
        Kit.writing(x, "b");
        KIT.told(x, "back()", x.back(), 0);
        KIT.same("LINES", Kit.lines(x), lines);
        KIT.told(x, "told(6)", x.told(6), 0);
        KIT.told(x, "frequent() of the WRITING that was SET", x.frequent(), 1);
        KIT.told(x, "signs(0)", x.signs(0), 1);
        KIT.told(x, "piece(2, 0)", x.piece(2, 0), 6);
        // Nothing is SET behind press(), but the WRITING is there.
        Kit.press(x, "rule a cells 1;rule b cells 2;capital 3;");
        x.mark();
        Kit.press(x, TABLE);
        KIT.told(x, "reset()", x.reset(), 13);
        KIT.told(x, "back()", x.back(), 0);
        KIT.refused(x, "size(0)", x.size(0), 6);
        KIT.told(x, "reset()", x.reset(), 13);
        KIT.same("CELLS", Kit.cells(x), "1 2 0 3 1 2 0 1 1 1 1 1 1");
        // RULES that were DROPPED when it was SET, and are there again at the MARK.
        RaisedPress y = Kit.pressed(TABLE);
        y.drop(0, true);
        Kit.writing(y, "ab");
        y.drop(0, false);
        y.drop(1, true);
        y.mark();
        Kit.writing(y, "ab");
        KIT.same("CELLS", Kit.cells(y), "5 6");
        KIT.told(y, "back()", y.back(), 0);
        KIT.same("CELLS as they were SET", Kit.cells(y), "1 3");
        KIT.told(y, "used(0)", y.used(0), 0);
        KIT.told(y, "told(6)", y.told(6), 2);
        y.mark();
        KIT.told(y, "back() once more", y.back(), 0);
        KIT.same("CELLS as they were SET", Kit.cells(y), "1 3");
        // RULES that are DROPPED behind what is SET, kept and taken back with it.
        x.drop(0, true);
        x.mark();
        x.drop(0, false);
        x.back();
        KIT.told(x, "told(6)", x.told(6), 1);
        KIT.told(x, "size(0)", x.size(0), 13);
        KIT.refused(x, "reset()", x.reset(), 7);
    }

    private static void whatIsNotKept() {
        RaisedPress x = Kit.written(TABLE, "ab");
        Kit.fill(x, 0, 1, 3);
        x.mark();
        x.write(0, 1, 1);
        x.first(0, 2);
        x.worn(0, 16);
        x.odds(0, 4, 16);
        x.odds(0, 1, 0);
        Kit.writing(x, "x");
        x.feed(0, 0, 0, 0, 0);
        KIT.told(x, "back()", x.back(), 0);
        KIT.told(x, "read(0, 1)", x.read(0, 1), 1);
        KIT.told(x, "firstAt(1)", x.firstAt(1), 1);
        KIT.told(x, "wornAt(1)", x.wornAt(1), 0);
        KIT.due("top()", x.top(), 1);
        KIT.due("fault(0)", x.fault(0), 3);
        KIT.due("feed()", x.feed(0, 0, 0, 0, 0), 40);
    }
}

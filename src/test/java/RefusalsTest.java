import java.util.ArrayList;
import java.util.List;

/**
 * "With another STATUS than 0 a call gives NONE, or false, and changes nothing else (but press(),
 * writing() with 9 the tape, and what fault() tells)": every call is refused in every state with
 * every STATUS that it has there; all that can be told of the object is told behind it, and of one
 * on which the call was not made. Calls that only ask are tried so, too.
 */
public final class RefusalsTest {

    private static final Kit KIT = Kit.start();
    private static final int STATES = 5;

    private interface Call {
        long on(RaisedPress x);
    }

    private record Case(int promise, String name, Call call, int... statuses) {
    }

    private static final List<Case> CASES = new ArrayList<>();

    private RefusalsTest() {
    }

    public static void main(String[] args) {
        traysAndTexts();
        whatIsSet();
        rowsAndTable();
        wearAndMarks();
        for (Case c : CASES) {
            for (int state = 0; state < STATES; state++) {
                trial(c, state);
            }
        }
        for (int state = 0; state < STATES; state++) {
            faultyTexts(state);
            questions(state);
        }
        KIT.end("RefusalsTest");
    }

    // ---- states

    private static final String TABLE = "capital 32;number 60;hyphen 36;line 6;page 2;"
        + "rule a cells 1;rule b cells 3;rule c cells 9 1;rule ab cells 5;";
    private static final String ON_TAPE = "rule k cells 7;     ";

    /** 0 a new object, 1 a PRESS, 2 what is SET, 3 it can't be SET now, 4 a PRESS more, full. */
    private static RaisedPress at(int state) {
        RaisedPress x = new RaisedPress();
        if (state == 0) {
            return x;
        }
        Kit.press(x, TABLE);
        Kit.fill(x, 0, 1, 3, 5, 0);
        if (state == 1) {
            x.tray(1, 0, 0);
            x.drop(2, true);
            x.mark();
            Kit.writing(x, "a#");
            Kit.feed(x, ON_TAPE);
            return x;
        }
        Kit.fill(x, 2, 64, 2, -1);
        x.tray(3, 1, 30);
        Kit.writing(x, "Cab 12 abababcaab b");
        x.first(0, 2);
        x.worn(3, 5);
        x.odds(0, 8, 3);
        x.mark();
        x.drop(3, true);
        x.mark();
        Kit.writing(x, "ab 2a");
        Kit.feed(x, ON_TAPE + ON_TAPE);
        if (state == 3) {
            x.drop(0, true);
        }
        if (state == 4) {
            x.mark();
            x.press(20);
            Kit.feed(x, ON_TAPE.repeat(45));
        }
        return x;
    }

    // ---- trials

    private static void trial(Case c, int state) {
        int due = c.statuses().length == 1 ? c.statuses()[0] : c.statuses()[state];
        if (due == 0) {
            return;
        }
        RaisedPress x = at(state);
        KIT.promise(c.promise());
        KIT.refused(x, c.name() + " in state " + state, c.call().on(x), due);
        KIT.same("what can be told behind " + c.name() + " in state " + state,
            Story.of(() -> behind(state, c.call()), true), Story.of(() -> at(state), true));
    }

    private static RaisedPress behind(int state, Call call) {
        RaisedPress x = at(state);
        call.on(x);
        return x;
    }

    /** STATUS one by one for the states 0 to 4, or one for all; 0 where it is not refused. */
    private static void add(int promise, String name, Call call, int... statuses) {
        CASES.add(new Case(promise, name, call, statuses));
    }

    private static long as(boolean answer) {
        return answer ? 0 : -1;
    }

    private static void traysAndTexts() {
        add(5, "tray(4, 0, 1)", x -> as(x.tray(4, 0, 1)), 1);
        add(5, "tray(0, 4, 1)", x -> as(x.tray(0, 4, 1)), 1);
        add(5, "tray(0, 0, 61)", x -> as(x.tray(0, 0, 61)), 1);
        add(5, "tray(0, 0, -1)", x -> as(x.tray(0, 0, -1)), 1);
        add(6, "write(-1, 0, 7)", x -> as(x.write(-1, 0, 7)), 1);
        add(6, "write(0, 4, 7)", x -> as(x.write(0, 4, 7)), 2, 3, 3, 3, 3);
        add(6, "write(0, -1, 7)", x -> as(x.write(0, -1, 7)), 2, 3, 3, 3, 3);
        add(6, "write(1, 0, 7)", x -> as(x.write(1, 0, 7)), 2, 3, 2, 2, 2);
        add(7, "read(4, 0)", x -> x.read(4, 0), 1);
        add(7, "read(0, 4)", x -> x.read(0, 4), 2, 3, 3, 3, 3);
        add(7, "read(1, 0)", x -> x.read(1, 0), 2, 3, 2, 2, 2);
        add(8, "pour(0, -1, 0, 0, 1)", x -> as(x.pour(0, -1, 0, 0, 1)), 1);
        add(8, "pour(0, 0, 1, 0, 1)", x -> as(x.pour(0, 0, 1, 0, 1)), 2, 8, 2, 2, 2);
        add(8, "pour(0, 0, 3, 0, 1)", x -> as(x.pour(0, 0, 3, 0, 1)), 2, 2, 8, 8, 8);
        add(8, "pour(0, 0, 0, 1, 4)", x -> as(x.pour(0, 0, 0, 1, 4)), 2, 3, 3, 3, 3);
        add(8, "pour(2, 0, 0, 2, 3)", x -> as(x.pour(2, 0, 0, 2, 3)), 2, 2, 3, 3, 3);
        add(10, "press(-1)", x -> x.press(-1), 1);
        add(10, "press(901)", x -> x.press(901), 1);
        add(10, "press(61)", x -> x.press(61), 1, 1, 1, 1, 0);
        add(11, "writing(-1)", x -> x.writing(-1), 1);
        add(11, "writing(301)", x -> x.writing(301), 1);
        add(11, "writing(61)", x -> x.writing(61), 1, 1, 1, 1, 0);
        add(13, "told(7)", x -> x.told(7), 1);
        add(13, "told(-1)", x -> x.told(-1), 1);
        add(13, "told(1)", x -> x.told(1), 6, 0, 0, 0, 6);
        add(14, "rule(4, 0)", x -> x.rule(4, 0), 1);
        add(14, "rule(0, 3)", x -> x.rule(0, 3), 1);
        add(15, "letter(4, 0)", x -> x.letter(4, 0), 1);
        add(15, "letter(0, 1)", x -> x.letter(0, 1), 1, 6, 6, 6, 6);
        add(16, "cellOf(4, 0)", x -> x.cellOf(4, 0), 1);
        add(16, "cellOf(0, 1)", x -> x.cellOf(0, 1), 1, 6, 6, 6, 6);
        add(17, "drop(4, true)", x -> as(x.drop(4, true)), 1);
        add(17, "drop(4, false)", x -> as(x.drop(4, false)), 1);
        add(17, "drop(-1, true)", x -> as(x.drop(-1, true)), 1);
        add(17, "drop(32, true)", x -> as(x.drop(32, true)), 1);
        add(17, "drop(35, false)", x -> as(x.drop(35, false)), 1);
    }

    private static void whatIsSet() {
        // By the PRESS of state 4 no a, b, 2 of the latest WRITING can be SET.
        add(18, "reset()", x -> x.reset(), 6, 6, 0, 7, 7);
        add(19, "size(5)", x -> x.size(5), 1);
        add(19, "size(0)", x -> x.size(0), 6, 6, 0, 0, 6);
        add(20, "cell(7)", x -> x.cell(7), 6);
        add(21, "line(2)", x -> x.line(2), 6);
        add(22, "lineAt(0, 6)", x -> x.lineAt(0, 6), 6);
        add(23, "onPage(0, 0, 32)", x -> x.onPage(0, 0, 32), 1);
        add(23, "onPage(0, 25, 0)", x -> x.onPage(0, 25, 0), 1);
        add(23, "onPage(1, 0, 0)", x -> x.onPage(1, 0, 0), 6);
        add(24, "hyphens()", x -> x.hyphens(), 6, 6, 0, 0, 6);
        add(25, "used(4)", x -> x.used(4), 1);
        add(25, "used(0)", x -> x.used(0), 1, 6, 0, 0, 6);
        add(26, "useless()", x -> x.useless(), 6, 6, 0, 0, 6);
        add(27, "dots()", x -> x.dots(), 6, 6, 0, 0, 6);
        add(28, "plain()", x -> x.plain(), 6, 6, 0, 7, 6);
        add(29, "fewest()", x -> x.fewest(), 6, 6, 0, 7, 6);
        add(30, "saving(4)", x -> x.saving(4), 1);
        add(30, "saving(0)", x -> x.saving(0), 1, 6, 7, 7, 6);
        add(31, "cheapest()", x -> x.cheapest(), 6, 6, 0, 6, 6);
        add(32, "piece(0, 2)", x -> x.piece(0, 2), 1);
        add(32, "piece(2, 0)", x -> x.piece(2, 0), 6);
        add(33, "by(2), a blank", x -> x.by(2), 6);
        add(33, "by(-1)", x -> x.by(-1), 6);
        add(34, "dense(41)", x -> x.dense(41), 1);
        add(34, "dense(40)", x -> x.dense(40), 6, 6, 7, 7, 6);
        add(35, "alike(0, 2)", x -> x.alike(0, 2), 6);
        add(36, "longest()", x -> x.longest(), 6, 6, 0, 0, 6);
        add(37, "inLine(2)", x -> x.inLine(2), 6);
        add(38, "wasted(2)", x -> x.wasted(2), 6);
        add(39, "saved()", x -> x.saved(), 6, 6, 0, 7, 6);
        add(40, "frequent()", x -> x.frequent(), 6, 6, 0, 0, 6);
        add(41, "pieceOf(2), a blank", x -> x.pieceOf(2), 6);
        add(42, "signs(2)", x -> x.signs(2), 1);
        add(42, "signs(0)", x -> x.signs(0), 6, 6, 0, 0, 6);
        add(43, "covers(4)", x -> x.covers(4), 1);
        add(43, "covers(0)", x -> x.covers(0), 1, 6, 0, 0, 6);
        add(44, "often(64)", x -> x.often(64), 1);
        add(44, "often(0)", x -> x.often(0), 6, 6, 0, 0, 6);
        add(45, "commonest()", x -> x.commonest(), 6, 6, 0, 0, 6);
        add(46, "ragged()", x -> x.ragged(), 6, 6, 0, 0, 6);
        add(47, "leastRagged()", x -> x.leastRagged(), 6, 6, 0, 0, 6);
    }

    private static void rowsAndTable() {
        add(48, "ways(0, 0)", x -> x.ways(0, 0), 1);
        add(48, "ways(0, 5)", x -> x.ways(0, 5), 2, 3, 3, 3, 3);
        add(48, "ways(0, 4)", x -> x.ways(0, 4), 2, 5, 5, 5, 5);
        add(49, "first(4, 1)", x -> x.first(4, 1), 1);
        add(49, "first(0, 5)", x -> x.first(0, 5), 2, 3, 3, 3, 3);
        add(49, "first(0, 4)", x -> x.first(0, 4), 2, 5, 5, 5, 5);
        // a, b, ab: ab is DROPPED from state 2 on, a in state 3; in state 4 there is k alone.
        add(49, "first(0, 3)", x -> x.first(0, 3), 2, 0, 6, 6, 6);
        add(50, "firstAt(2)", x -> x.firstAt(2), 6);
        add(51, "letters()", x -> x.letters(), 6, 6, 0, 0, 0);
        add(52, "truths(0, 21)", x -> x.truths(0, 21), 1);
        add(52, "truths(0, 5)", x -> x.truths(0, 5), 2, 3, 3, 3, 3);
        add(52, "truths(0, 4)", x -> x.truths(0, 4), 2, 5, 5, 5, 5);
        add(53, "failed(0, 4, 1)", x -> x.failed(0, 4, 1), 1);
        add(53, "failed(0, 2, 2)", x -> x.failed(0, 2, 2), 2, 2, 5, 5, 5);
        add(53, "failed(0, 2, 4)", x -> x.failed(0, 2, 4), 2, 2, 3, 3, 3);
        add(54, "mirror(0)", x -> x.mirror(0), 1);
        add(54, "mirror(64)", x -> x.mirror(64), 1);
        add(55, "turned(4)", x -> x.turned(4), 1);
        add(55, "turned(0)", x -> x.turned(0), 1, 6, 6, 6, 6);
        add(57, "near(0, 4)", x -> x.near(0, 4), 1);
        add(57, "near(0, 2)", x -> x.near(0, 2), 1, 7, 7, 7, 1);
        add(58, "clash(4, 0)", x -> x.clash(4, 0), 1);
        add(61, "twin()", x -> x.twin(), 6);
    }

    private static void wearAndMarks() {
        add(63, "worn(10000, 0)", x -> x.worn(10000, 0), 1);
        add(63, "worn(0, 17)", x -> x.worn(0, 17), 1);
        add(63, "worn(0, 16)", x -> x.worn(0, 16), 6, 6, 0, 0, 6);
        add(64, "wornAt(18)", x -> x.wornAt(18), 6);
        add(64, "wornAt(-1)", x -> x.wornAt(-1), 6);
        add(65, "odds(0, 0, 0)", x -> as(x.odds(0, 0, 0)), 1);
        add(65, "odds(9999, 2, 0)", x -> as(x.odds(9999, 2, 0)), 1);
        add(65, "odds(0, 1, 17)", x -> as(x.odds(0, 1, 17)), 1);
        add(65, "odds(0, 20, 1)", x -> as(x.odds(0, 20, 1)), 6, 6, 0, 0, 6);
        add(66, "mark()", x -> x.mark(), 0, 0, 0, 0, 4);
        add(67, "back()", x -> x.back(), 6, 0, 0, 0, 0);
        // feed() has no STATUS: it gives NONE, and changes nothing.
        add(9, "a call behind feed() on a full tape", x -> {
            x.feed(-1, -1, -1, -1, -1);
            return x.told(-1);
        }, 0, 0, 0, 0, 1);
    }

    /** "(but press(), writing() with 9 the tape, and what fault() tells)". */
    private static void faultyTexts(int state) {
        for (int text = 0; text < 2; text++) {
            Call call = text == 0 ? x -> faultyPress(x) : x -> faultyWriting(x);
            RaisedPress x = at(state);
            KIT.promise(10 + text);
            KIT.refused(x, "a text with a FAULT in state " + state, call.on(x), 9);
            KIT.due("fault(0) is told", x.fault(0) > 0, true);
            KIT.due("fault(1) is told", x.fault(1) >= 0, true);
            // The tape is emptied in another way: all else is as it was.
            KIT.same("what can be told behind a FAULT in state " + state,
                Story.of(() -> behind(state, call), false),
                Story.of(() -> behind(state, y -> emptied(y)), false));
        }
    }

    private static int faultyPress(RaisedPress x) {
        return x.press(Math.max(2, x.feed(0, 0, 0, 0, 0)));
    }

    private static int faultyWriting(RaisedPress x) {
        int many = x.feed(0x23000000, 0, 0, 0, 0);
        return x.writing(many < 0 ? 299 : many);
    }

    /** An empty tape, all else as it was: by a text that is not taken, of few bytes. */
    private static int emptied(RaisedPress x) {
        x.feed(0, 0, 0, 0, 0);
        return x.writing(19);
    }

    /** Calls that are answered, and only ask, change nothing but STATUS. */
    private static void questions(int state) {
        List<Call> asks = List.of(x -> x.fewest(), x -> x.saving(3), x -> x.cheapest(), x -> x.plain(),
            x -> x.ways(0, 2), x -> x.truths(0, 2), x -> x.failed(0, 0, 2), x -> x.failed(0, 3, 3),
            x -> x.clear(), x -> x.twin(), x -> x.twins(), x -> x.clashes(), x -> x.lacks(),
            x -> x.leastRagged(), x -> x.commonest(), x -> x.dense(3), x -> x.frequent(),
            x -> x.covers(0), x -> x.near(0, 1), x -> x.turned(0), x -> x.useless(),
            x -> x.onPage(0, 0, 0), x -> x.pieceOf(0), x -> x.fault(0), x -> x.top(),
            x -> x.read(0, 0), x -> x.told(6), x -> x.wornAt(0), x -> x.firstAt(0));
        for (int k = 0; k < asks.size(); k++) {
            Call ask = asks.get(k);
            KIT.promise(2);
            KIT.same("what can be told behind question " + k + " in state " + state,
                Story.of(() -> behind(state, ask), true), Story.of(() -> at(state), true));
        }
    }
}

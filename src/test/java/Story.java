import java.util.function.Supplier;
import java.util.function.ToLongFunction;

/**
 * All that can be told of an object, as one text. What asks many calls asks them of many objects,
 * each made anew in the same way, so that none is used for more than 512 calls.
 */
final class Story {

    /** Calls asked of one object, two at once now and then: it takes some to make it, too. */
    private static final int MOST_ASKED = 150;

    private final StringBuilder told = new StringBuilder();
    private Supplier<RaisedPress> maker;
    private RaisedPress object = null;
    private int asked = 0;

    private Story(Supplier<RaisedPress> maker) {
        this.maker = maker;
    }

    /** What is on the tape and under the MARKS, too. */
    static String of(Supplier<RaisedPress> maker, boolean faultToo) {
        Story s = new Story(maker);
        if (faultToo) {
            s.askBare(x -> x.fault(0));
            s.askBare(x -> x.fault(1));
        }
        s.askBare(x -> x.top());
        s.askBare(x -> x.bottom());
        s.trays();
        s.table();
        s.set();
        s.kept();
        Supplier<RaisedPress> back = maker;
        for (int k = 0; k < 4; k++) {
            s.chapter("back", back);
            s.ask(x -> x.back());
            back = behind(back, x -> x.back());
            s.chapter("behind back", back);
            s.table();
            s.set();
        }
        s.kept();
        s.chapter("reset", maker);
        s.ask(x -> x.reset());
        s.chapter("behind reset", behind(maker, x -> x.reset()));
        s.set();
        s.tape(maker);
        return s.told.toString();
    }

    /** What follows from the PRESS and the WRITING alone. */
    static String ofSet(Supplier<RaisedPress> maker) {
        Story s = new Story(maker);
        s.table();
        s.set();
        s.wear(maker);
        return s.told.toString();
    }

    /** What the RULES say of a ROW. */
    static String ofRow(RaisedPress object, int tray, int many) {
        Story s = new Story(() -> object);
        s.ask(x -> x.ways(tray, many));
        s.ask(x -> x.truths(tray, many));
        s.ask(x -> x.failed(tray, tray, many));
        s.ask(x -> x.first(tray, many));
        s.ask(x -> x.letters());
        s.each(0, many, (x, k) -> x.firstAt(k));
        return s.told.toString();
    }

    private interface Place {
        long of(RaisedPress x, int k);
    }

    private static Supplier<RaisedPress> behind(Supplier<RaisedPress> maker,
        ToLongFunction<RaisedPress> call) {
        return () -> {
            RaisedPress x = maker.get();
            call.applyAsLong(x);
            return x;
        };
    }

    private void chapter(String name, Supplier<RaisedPress> next) {
        told.append('\n').append(name).append(": ");
        maker = next;
        object = null;
    }

    /** A call without a STATUS. */
    private long askBare(ToLongFunction<RaisedPress> question) {
        if (object == null || asked >= MOST_ASKED) {
            object = maker.get();
            asked = 0;
        }
        asked++;
        long answer = question.applyAsLong(object);
        told.append(answer).append(' ');
        return answer;
    }

    private long ask(ToLongFunction<RaisedPress> question) {
        long answer = askBare(question);
        asked++;
        told.append('/').append(object.status()).append(' ');
        return answer;
    }

    private void each(int from, int to, Place place) {
        for (int k = from; k <= to; k++) {
            int at = k;
            ask(x -> place.of(x, at));
        }
    }

    /** Of many places some forty, and the last ones. */
    private void some(long many, Place place) {
        int step = (int) Math.max(1, many / 40);
        for (int k = 0; k <= many; k += k + step < many - 1 ? step : 1) {
            int at = k;
            ask(x -> place.of(x, at));
        }
    }

    private void trays() {
        told.append("\ntrays: ");
        for (int t = 0; t < 4; t++) {
            int tray = t;
            each(-1, 60, (x, k) -> x.read(tray, k));
        }
    }

    private void table() {
        told.append("\ntable: ");
        each(0, 6, (x, what) -> x.told(what));
        int rules = (int) ask(x -> x.told(0));
        for (int r = 0; r < rules; r++) {
            int rule = r;
            each(0, 2, (x, what) -> x.rule(rule, what));
            each(0, 6, (x, k) -> x.letter(rule, k));
            each(0, 3, (x, k) -> x.cellOf(rule, k));
            ask(x -> x.turned(rule));
            each(0, rules - 1, (x, k) -> 10 * x.near(rule, k) + x.clash(rule, k));
        }
        ask(x -> x.twins());
        ask(x -> x.clashes());
        ask(x -> x.clear());
        ask(x -> x.twin());
        ask(x -> x.lacks());
    }

    private void set() {
        told.append("\nset: ");
        each(0, 4, (x, what) -> x.size(what));
        some(ask(x -> x.size(0)), (x, k) -> x.cell(k));
        some(ask(x -> x.size(0)), (x, k) -> x.by(k));
        some(ask(x -> x.size(0)), (x, k) -> x.pieceOf(k));
        some(ask(x -> x.size(1)), (x, k) -> x.inLine(k));
        some(ask(x -> x.size(1)), (x, k) -> x.wasted(k));
        some(ask(x -> x.size(1)), (x, k) -> x.alike(k, 0));
        some(ask(x -> x.size(1)), (x, l) -> x.line(l));
        some(ask(x -> x.size(1)), (x, l) -> x.lineAt(l, x.line(l) - 1));
        for (int k = 0; k < 6; k++) {
            int place = k;
            some(ask(x -> x.size(1)), (x, l) -> x.lineAt(l, place));
        }
        some(ask(x -> x.size(1)), (x, l) -> x.onPage(l / 2, l % 2, l % 4));
        some(ask(x -> x.size(3)), (x, k) -> x.piece(k, 0));
        some(ask(x -> x.size(3)), (x, k) -> x.piece(k, 1));
        int rules = (int) ask(x -> x.told(0));
        each(0, rules - 1, (x, r) -> x.used(r));
        each(0, rules - 1, (x, r) -> x.covers(r));
        each(0, rules - 1, (x, r) -> x.saving(r));
        questions();
    }

    private void questions() {
        ask(x -> x.useless());
        ask(x -> x.hyphens());
        ask(x -> x.dots());
        ask(x -> x.plain());
        ask(x -> x.fewest());
        ask(x -> x.cheapest());
        ask(x -> x.saved());
        ask(x -> x.longest());
        ask(x -> x.frequent());
        each(0, 1, (x, what) -> x.signs(what));
        ask(x -> x.ragged());
        ask(x -> x.leastRagged());
        ask(x -> x.commonest());
        each(0, 9, (x, k) -> x.often(7 * k));
        each(1, 14, (x, k) -> x.dense(k));
    }

    private void wear(Supplier<RaisedPress> first) {
        for (int sixteenths = 0; sixteenths <= 16; sixteenths += 4) {
            int less = sixteenths;
            chapter("worn", behind(first, x -> x.worn(31, less)));
            ask(x -> x.worn(31, less));
            some(ask(x -> x.size(0)), (x, k) -> x.wornAt(k));
            ask(x -> x.odds(31, 20, less) ? 100 * x.top() + x.bottom() : -1);
        }
        chapter("behind wear", first);
    }

    private void kept() {
        told.append("\nkept: ");
        ask(x -> x.letters());
        each(-1, 20, (x, k) -> x.firstAt(k));
        each(-1, 30, (x, k) -> x.wornAt(k));
    }

    private static int more(RaisedPress x) {
        return x.feed(0x20202020, 0x20202020, 0x20202020, 0x20202020, 0x20202020);
    }

    private void tape(Supplier<RaisedPress> first) {
        chapter("tape", first);
        long more = askBare(x -> more(x));
        int many = more < 0 ? 900 : (int) more;
        ask(x -> x.press(many));
        askBare(x -> x.fault(0));
        askBare(x -> x.fault(1));
        chapter("behind the tape", behind(behind(first, x -> more(x)), x -> x.press(many)));
        table();
    }
}

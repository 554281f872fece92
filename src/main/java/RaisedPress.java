/**
 * A press for raised writing. The document ../shared/DOC.md says what every call does; the words
 * in capitals in the comments here are that document's.
 */
public final class RaisedPress {

    public static final int NONE = -1;

    private static final int MOST_TAPE = 900;
    private static final int MOST_BYTES = 300;
    private static final int MOST_RULES = 24;
    private static final int MOST_LETTERS = 6;
    private static final int MOST_CELLS = 3;
    private static final int MOST_ROW = 20;
    private static final int MOST_MARKS = 3;
    private static final int MOST_WAYS = 999999;
    private static final int MOST_WAYS_TRIED = 9999;
    private static final int MOST_SEED = 9999;
    private static final int MOST_SEEDS = 20;
    private static final int MOST_SIXTEENTHS = 16;
    private static final int MOST_DENSE = 40;
    private static final int LAST_CELL = 63;
    private static final int ALPHABET = 26;
    /** A byte gives at most four CELLS: CAPITAL or NUMBER and three of a RULE. */
    private static final int MOST_SET = 4 * MOST_BYTES;
    /** Every PIECE but the last has a blank behind it. */
    private static final int MOST_PIECES = MOST_BYTES / 2;
    /** A LINE is a broken PIECE's of three CELLS and more, or one that begins a PIECE or its rest. */
    private static final int MOST_LINES = MOST_SET / 3 + MOST_PIECES;

    private static final int CAPITAL = 0;
    private static final int NUMBER = 1;
    private static final int HYPHEN = 2;
    private static final int LINE = 3;
    private static final int PAGE = 4;
    private static final int SIGNS = 5;

    private static final int OK = 0;
    private static final int BAD_NUMBER = 1;
    private static final int MISSING = 2;
    private static final int NO_PLACE = 3;
    private static final int ONE_TOO_MANY = 4;
    private static final int BAD_CONTENT = 5;
    private static final int NONE_SUCH = 6;
    private static final int CANNOT_BE = 7;
    private static final int UNLIKE_SORTS = 8;
    private static final int FAULTY = 9;

    private final int[] tape = new int[MOST_TAPE];
    private int taped = 0;
    private int status = OK;
    private int fault = NONE;
    private int faultPlace = NONE;
    private long top = 0;
    private long bottom = 1;
    private final Trays trays = new Trays();
    private final Reader reader = new Reader();
    private final Table table = new Table();
    private final Script script = new Script();
    private boolean isSet = false;
    private Setting shown = new Setting();
    private Setting spare = new Setting();
    private final Layout layout = new Layout();
    private final Rows rows = new Rows();
    private final Code code = new Code();
    private final Wear wear = new Wear();
    private final Mark[] marks = new Mark[MOST_MARKS];
    private int marked = 0;

    public RaisedPress() {
        for (int k = 0; k < MOST_MARKS; k++) {
            marks[k] = new Mark();
        }
    }

    private int answer(int value) {
        status = OK;
        return value;
    }

    private int refuse(int why) {
        status = why;
        return NONE;
    }

    private boolean did() {
        status = OK;
        return true;
    }

    private boolean didNot(int why) {
        status = why;
        return false;
    }

    private int answerOr(boolean holds, int value, int why) {
        return holds ? answer(value) : refuse(why);
    }

    public int status() {
        return status;
    }

    public long top() {
        return top;
    }

    public long bottom() {
        return bottom;
    }

    // ---- TRAYS

    public boolean tray(int tray, int sort, int many) {
        if (!trays.isTray(tray) || !trays.isSort(sort) || many < 0 || many > Trays.MOST) {
            return didNot(BAD_NUMBER);
        }
        trays.lay(tray, sort, many);
        return did();
    }

    public boolean write(int tray, int place, long v) {
        int why = trays.whyNoPlace(tray, place);
        if (why != OK) {
            return didNot(why);
        }
        trays.put(tray, place, v);
        return did();
    }

    public long read(int tray, int place) {
        int why = trays.whyNoPlace(tray, place);
        if (why != OK) {
            return refuse(why);
        }
        status = OK;
        return trays.numberAt(tray, place);
    }

    public boolean pour(int from, int place, int to, int at, int many) {
        if (!trays.isTray(from) || !trays.isTray(to) || place < 0 || at < 0 || many < 0) {
            return didNot(BAD_NUMBER);
        }
        if (trays.isMissing(from) || trays.isMissing(to)) {
            return didNot(MISSING);
        }
        if (trays.sortOf(from) != trays.sortOf(to)) {
            return didNot(UNLIKE_SORTS);
        }
        if (!trays.hasFrom(from, place, many) || !trays.hasFrom(to, at, many)) {
            return didNot(NO_PLACE);
        }
        trays.move(from, place, to, at, many);
        return did();
    }

    // ---- texts

    public int feed(int a, int b, int c, int d, int e) {
        if (taped + 20 > MOST_TAPE) {
            return NONE;
        }
        feedInt(a);
        feedInt(b);
        feedInt(c);
        feedInt(d);
        feedInt(e);
        return taped;
    }

    private void feedInt(int v) {
        for (int shift = 24; shift >= 0; shift -= 8) {
            if (taped < MOST_TAPE) {
                tape[taped] = (v >>> shift) & 255;
                taped++;
            }
        }
    }

    public int press(int n) {
        if (n < 0 || n > taped) {
            return refuse(BAD_NUMBER);
        }
        boolean taken = reader.takes(tape, n);
        taped = 0;
        fault = reader.fault;
        faultPlace = reader.place;
        if (!taken) {
            return refuse(FAULTY);
        }
        table.copyOf(reader.table);
        isSet = false;
        return answer(table.rules);
    }

    public int writing(int n) {
        if (n < 0 || n > taped || n > MOST_BYTES) {
            return refuse(BAD_NUMBER);
        }
        boolean taken = spare.sets(tape, n, table, table.dropped);
        taped = 0;
        fault = spare.fault;
        faultPlace = spare.place;
        if (!taken) {
            return refuse(FAULTY);
        }
        script.take(tape, n);
        showSpare();
        return answer(shown.many);
    }

    /** What was just SET aside comes in place of what was SET ahead. */
    private void showSpare() {
        Setting old = shown;
        shown = spare;
        spare = old;
        isSet = true;
        layout.lay(shown, table);
    }

    public int fault(int what) {
        if (what == 0) {
            return fault;
        }
        return what == 1 ? faultPlace : NONE;
    }

    public int told(int what) {
        if (what < 0 || what > SIGNS + 1) {
            return refuse(BAD_NUMBER);
        }
        if (what == 0) {
            return answer(table.rules);
        }
        if (what > SIGNS) {
            return answer(table.dropped);
        }
        int sign = table.signs[what - 1];
        return answerOr(sign != 0, sign, NONE_SUCH);
    }

    public int rule(int rule, int what) {
        if (!table.has(rule) || what < 0 || what > 2) {
            return refuse(BAD_NUMBER);
        }
        if (what == 0) {
            return answer(table.letterCount[rule]);
        }
        return answer(what == 1 ? table.cellCount[rule] : table.cond[rule]);
    }

    public int letter(int rule, int k) {
        if (!table.has(rule)) {
            return refuse(BAD_NUMBER);
        }
        if (k < 0 || k >= table.letterCount[rule]) {
            return refuse(NONE_SUCH);
        }
        return answer(table.letterAt(rule, k));
    }

    public int cellOf(int rule, int k) {
        if (!table.has(rule)) {
            return refuse(BAD_NUMBER);
        }
        if (k < 0 || k >= table.cellCount[rule]) {
            return refuse(NONE_SUCH);
        }
        return answer(table.cellAt(rule, k));
    }

    public boolean drop(int rule, boolean is) {
        if (!table.has(rule)) {
            return didNot(BAD_NUMBER);
        }
        int bit = 1 << rule;
        table.dropped = is ? table.dropped | bit : table.dropped & ~bit;
        return did();
    }

    // ---- what is SET

    public int reset() {
        if (!script.isThere()) {
            return refuse(NONE_SUCH);
        }
        if (!spare.sets(script.bytes, script.many, table, table.dropped)) {
            return refuse(CANNOT_BE);
        }
        showSpare();
        return answer(shown.many);
    }

    public int size(int what) {
        if (what < 0 || what > 4) {
            return refuse(BAD_NUMBER);
        }
        if (!isSet) {
            return refuse(NONE_SUCH);
        }
        switch (what) {
            case 0:
                return answer(shown.many);
            case 1:
                return answer(layout.lines);
            case 2:
                return answer(pages());
            case 3:
                return answer(layout.pieces);
            default:
                return answer(shown.usedInAll());
        }
    }

    private int pages() {
        int onEach = Math.max(1, table.signs[PAGE]);
        return (layout.lines + onEach - 1) / onEach;
    }

    private boolean isSetCell(int k) {
        return isSet && k >= 0 && k < shown.many;
    }

    private boolean isLine(int line) {
        return isSet && line >= 0 && line < layout.lines;
    }

    public int cell(int k) {
        if (!isSetCell(k)) {
            return refuse(NONE_SUCH);
        }
        return answer(shown.cells[k]);
    }

    public int line(int line) {
        if (!isLine(line)) {
            return refuse(NONE_SUCH);
        }
        return answer(layout.lengthOf(line));
    }

    public int lineAt(int line, int k) {
        if (!isLine(line) || k < 0 || k >= layout.lengthOf(line)) {
            return refuse(NONE_SUCH);
        }
        return answer(cellInLine(line, k));
    }

    /** Of a LINE that is there: 0 behind its last CELL. */
    private int cellInLine(int line, int k) {
        if (k < layout.lineMany[line]) {
            return shown.cells[layout.lineFrom[line] + k];
        }
        return k < layout.lengthOf(line) ? table.signs[HYPHEN] : 0;
    }

    public int onPage(int page, int line, int place) {
        int onEach = table.signs[PAGE];
        if (place < 0 || place >= table.signs[LINE] || line < 0 || line >= onEach) {
            return refuse(BAD_NUMBER);
        }
        if (!isSet || page < 0 || page >= pages() || !isLine(page * onEach + line)) {
            return refuse(NONE_SUCH);
        }
        return answer(cellInLine(page * onEach + line, place));
    }

    public int hyphens() {
        return answerOr(isSet, layout.hyphenCount(), NONE_SUCH);
    }

    public int used(int rule) {
        if (!table.has(rule)) {
            return refuse(BAD_NUMBER);
        }
        return answerOr(isSet, shown.uses[rule], NONE_SUCH);
    }

    public int useless() {
        if (!isSet) {
            return refuse(NONE_SUCH);
        }
        int found = 0;
        for (int r = 0; r < table.rules; r++) {
            if (table.isThere(r) && shown.uses[r] == 0) {
                found |= 1 << r;
            }
        }
        return answer(found);
    }

    public int dots() {
        if (!isSet) {
            return refuse(NONE_SUCH);
        }
        return answer(shown.dotsOf(0, shown.many));
    }

    public int plain() {
        if (!isSet) {
            return refuse(NONE_SUCH);
        }
        int plain = plainCells();
        return answerOr(plain != NONE, plain, CANNOT_BE);
    }

    private int plainCells() {
        int ofLetters = script.plainLetterCells(table);
        return ofLetters == NONE ? NONE : ofLetters + cellsBesideLetters();
    }

    /** Those of CAPITALS, FIGURES and blanks; a great letter begins a RULE, whichever is taken. */
    private int cellsBesideLetters() {
        return shown.many - shown.letterCells;
    }

    public int fewest() {
        if (!isSet) {
            return refuse(NONE_SUCH);
        }
        if (cellsWith(table.dropped) == NONE) {
            return refuse(CANNOT_BE);
        }
        return answer(script.fewestLetterCells(table) + cellsBesideLetters());
    }

    /** How many CELLS the WRITING would take with these RULES DROPPED; NONE with a FAULT. */
    private int cellsWith(int dropped) {
        return spare.sets(script.bytes, script.many, table, dropped) ? spare.many : NONE;
    }

    public int saving(int rule) {
        if (!table.has(rule)) {
            return refuse(BAD_NUMBER);
        }
        if (!isSet) {
            return refuse(NONE_SUCH);
        }
        int now = cellsWith(table.dropped);
        if (now == NONE) {
            return refuse(CANNOT_BE);
        }
        int without = cellsWith(table.dropped | (1 << rule));
        return answerOr(without != NONE, without - now, CANNOT_BE);
    }

    public int cheapest() {
        if (!isSet) {
            return refuse(NONE_SUCH);
        }
        int best = NONE;
        int least = 0;
        for (int r = 0; r < table.rules; r++) {
            int without = table.isThere(r) ? cellsWith(table.dropped | (1 << r)) : NONE;
            if (without != NONE && (best == NONE || without < least)) {
                best = r;
                least = without;
            }
        }
        if (best == NONE) {
            return refuse(NONE_SUCH);
        }
        return answerOr(cellsWith(table.dropped) != NONE, best, CANNOT_BE);
    }

    public int piece(int k, int what) {
        if (what < 0 || what > 1) {
            return refuse(BAD_NUMBER);
        }
        if (!isSet || k < 0 || k >= layout.pieces) {
            return refuse(NONE_SUCH);
        }
        return answer(what == 0 ? layout.pieceMany[k] : layout.pieceLine[k]);
    }

    public int by(int k) {
        if (!isSetCell(k)) {
            return refuse(NONE_SUCH);
        }
        return answerOr(shown.setBy[k] != NONE, shown.setBy[k], NONE_SUCH);
    }

    public int dense(int cells) {
        if (cells < 1 || cells > MOST_DENSE) {
            return refuse(BAD_NUMBER);
        }
        if (!isSet) {
            return refuse(NONE_SUCH);
        }
        return answerOr(cells <= shown.many, shown.densest(cells), CANNOT_BE);
    }

    public int alike(int a, int b) {
        if (!isLine(a) || !isLine(b)) {
            return refuse(NONE_SUCH);
        }
        int both = Math.min(layout.lengthOf(a), layout.lengthOf(b));
        int same = 0;
        for (int k = 0; k < both; k++) {
            if (cellInLine(a, k) == cellInLine(b, k)) {
                same++;
            }
        }
        return answer(same);
    }

    public int longest() {
        if (!isSet || layout.pieces == 0) {
            return refuse(NONE_SUCH);
        }
        return answer(layout.longestPiece());
    }

    public int inLine(int line) {
        if (!isLine(line)) {
            return refuse(NONE_SUCH);
        }
        int split = 1;
        for (int k = 0; k < layout.lineMany[line]; k++) {
            if (cellInLine(line, k) == 0) {
                split++;
            }
        }
        return answer(split);
    }

    public int wasted(int line) {
        if (!isLine(line)) {
            return refuse(NONE_SUCH);
        }
        return answer(layout.shortBy(line));
    }

    public int saved() {
        if (!isSet) {
            return refuse(NONE_SUCH);
        }
        int plain = plainCells();
        return answerOr(plain != NONE, plain - shown.many, CANNOT_BE);
    }

    public int frequent() {
        int found = isSet ? script.mostOftenLetter() : 0;
        return answerOr(found != 0, found, NONE_SUCH);
    }

    public int pieceOf(int k) {
        if (!isSetCell(k) || shown.cells[k] == 0) {
            return refuse(NONE_SUCH);
        }
        int blanks = 0;
        for (int i = 0; i < k; i++) {
            if (shown.cells[i] == 0) {
                blanks++;
            }
        }
        return answer(blanks);
    }

    public int signs(int what) {
        if (what < 0 || what > 1) {
            return refuse(BAD_NUMBER);
        }
        if (!isSet) {
            return refuse(NONE_SUCH);
        }
        return answer(what == 0 ? script.greatLetters() : script.figures());
    }

    public int covers(int rule) {
        if (!table.has(rule)) {
            return refuse(BAD_NUMBER);
        }
        if (!isSet) {
            return refuse(NONE_SUCH);
        }
        return answer(table.isThere(rule) ? script.placesOf(rule, table) : 0);
    }

    public int often(int cell) {
        if (cell < 0 || cell > LAST_CELL) {
            return refuse(BAD_NUMBER);
        }
        if (!isSet) {
            return refuse(NONE_SUCH);
        }
        return answer(shown.timesOf(cell));
    }

    public int commonest() {
        int best = 0;
        int most = 0;
        for (int c = 1; isSet && c <= LAST_CELL; c++) {
            int times = shown.timesOf(c);
            if (times > most) {
                best = c;
                most = times;
            }
        }
        return answerOr(best != 0, best, NONE_SUCH);
    }

    public int ragged() {
        return answerOr(isSet, layout.raggedness(), NONE_SUCH);
    }

    public int leastRagged() {
        if (!isSet) {
            return refuse(NONE_SUCH);
        }
        int least = layout.leastRaggedness();
        return answerOr(least != NONE, least, CANNOT_BE);
    }

    // ---- ROWS

    private int whyNoRow(int tray, int many) {
        if (!trays.isTray(tray) || many < 1 || many > MOST_ROW) {
            return BAD_NUMBER;
        }
        if (trays.isMissing(tray)) {
            return MISSING;
        }
        if (!trays.hasFrom(tray, 0, many)) {
            return NO_PLACE;
        }
        return trays.areWithin(tray, many, 1) ? OK : BAD_CONTENT;
    }

    private int whyNoFailed(int tray, int dots, int many) {
        if (!trays.isTray(tray) || !trays.isTray(dots) || many < 1 || many > MOST_ROW) {
            return BAD_NUMBER;
        }
        if (trays.isMissing(tray) || trays.isMissing(dots)) {
            return MISSING;
        }
        if (!trays.hasFrom(tray, 0, many) || !trays.hasFrom(dots, 0, many)) {
            return NO_PLACE;
        }
        boolean fit = trays.areWithin(tray, many, 1) && trays.areWithin(dots, many, 0);
        return fit ? OK : BAD_CONTENT;
    }

    /** The ROW out of a TRAY that has been looked at, with the dots that FAILED, if any did. */
    private void takeRow(int tray, int dots, int many) {
        for (int k = 0; k < many; k++) {
            int failed = dots == NONE ? 0 : (int) trays.numberAt(dots, k);
            rows.put(k, (int) trays.numberAt(tray, k), failed);
        }
        rows.count(many, table);
    }

    public int ways(int tray, int many) {
        int why = whyNoRow(tray, many);
        if (why != OK) {
            return refuse(why);
        }
        takeRow(tray, NONE, many);
        return answer(rows.readings());
    }

    public int first(int tray, int many) {
        int why = whyNoRow(tray, many);
        if (why != OK) {
            return refuse(why);
        }
        takeRow(tray, NONE, many);
        if (rows.readings() == 0) {
            return refuse(NONE_SUCH);
        }
        rows.findFirst(table);
        return answer(rows.firstMany);
    }

    public int firstAt(int k) {
        if (k < 0 || k >= rows.firstMany) {
            return refuse(NONE_SUCH);
        }
        return answer(rows.firstRules[k]);
    }

    public int letters() {
        return answerOr(rows.firstMany > 0, rows.firstLetters, NONE_SUCH);
    }

    public int truths(int tray, int many) {
        int why = whyNoRow(tray, many);
        if (why != OK) {
            return refuse(why);
        }
        takeRow(tray, NONE, many);
        if (rows.readings() > MOST_WAYS_TRIED) {
            return refuse(CANNOT_BE);
        }
        return answer(rows.trueReadings(table));
    }

    public int failed(int tray, int dots, int many) {
        int why = whyNoFailed(tray, dots, many);
        if (why != OK) {
            return refuse(why);
        }
        takeRow(tray, dots, many);
        return answer(rows.readings());
    }

    // ---- the table

    public int mirror(int cell) {
        if (cell < 1 || cell > LAST_CELL) {
            return refuse(BAD_NUMBER);
        }
        return answer(mirrorOf(cell));
    }

    private static int mirrorOf(int cell) {
        return ((cell & 7) << 3) | (cell >> 3);
    }

    public int turned(int rule) {
        if (!table.has(rule)) {
            return refuse(BAD_NUMBER);
        }
        for (int r = 0; r < table.rules; r++) {
            if (table.areMirrors(rule, r)) {
                return answer(r);
            }
        }
        return refuse(NONE_SUCH);
    }

    public int twins() {
        return answer(table.twinCouples());
    }

    public int near(int a, int b) {
        if (!table.has(a) || !table.has(b)) {
            return refuse(BAD_NUMBER);
        }
        if (table.cellCount[a] != table.cellCount[b]) {
            return refuse(CANNOT_BE);
        }
        return answer(table.unlikeDots(a, b));
    }

    public int clash(int a, int b) {
        if (!table.has(a) || !table.has(b)) {
            return refuse(BAD_NUMBER);
        }
        return answer(table.begins(a, b) ? 1 : 0);
    }

    public int clashes() {
        return answer(table.clashingCouples());
    }

    public int clear() {
        return answer(code.shortestTwin(table) == NONE ? 1 : 0);
    }

    public int twin() {
        int shortest = code.shortestTwin(table);
        return answerOr(shortest != NONE, shortest, NONE_SUCH);
    }

    public int lacks() {
        int found = 0;
        for (int k = 1; k <= ALPHABET; k++) {
            if (table.plainRule(k, table.dropped) == NONE) {
                found |= 1 << (k - 1);
            }
        }
        return answer(found);
    }

    // ---- dots that wear off

    private static boolean areDraws(int seed, int sixteenths) {
        return seed >= 0 && seed <= MOST_SEED && sixteenths >= 0 && sixteenths <= MOST_SIXTEENTHS;
    }

    public int worn(int seed, int sixteenths) {
        if (!areDraws(seed, sixteenths)) {
            return refuse(BAD_NUMBER);
        }
        if (!isSet) {
            return refuse(NONE_SUCH);
        }
        return answer(wear.wearOff(shown, seed, sixteenths));
    }

    public int wornAt(int k) {
        if (k < 0 || k >= wear.many) {
            return refuse(NONE_SUCH);
        }
        return answer(wear.cells[k]);
    }

    public boolean odds(int seed, int many, int sixteenths) {
        boolean fit = areDraws(seed, sixteenths) && many >= 1 && many <= MOST_SEEDS;
        if (!fit || seed + many - 1 > MOST_SEED) {
            return didNot(BAD_NUMBER);
        }
        if (!isSet) {
            return didNot(NONE_SUCH);
        }
        int held = 0;
        for (int k = 0; k < many; k++) {
            if (wear.leavesNoneBare(shown, seed + k, sixteenths)) {
                held++;
            }
        }
        tellFraction(held, many);
        return did();
    }

    /** Of at most 20 by 20: the numbers that divide both are tried one by one. */
    private void tellFraction(int over, int under) {
        int common = 1;
        for (int k = 2; k <= under; k++) {
            if (over % k == 0 && under % k == 0) {
                common = k;
            }
        }
        top = over / common;
        bottom = under / common;
    }

    // ---- MARKS

    public int mark() {
        if (marked >= MOST_MARKS) {
            return refuse(ONE_TOO_MANY);
        }
        marks[marked].keep(table, script, isSet, shown.dropped);
        marked++;
        return answer(marked);
    }

    public int back() {
        if (marked <= 0) {
            return refuse(NONE_SUCH);
        }
        marked--;
        Mark kept = marks[marked];
        table.copyOf(kept.table);
        script.take(kept.script.bytes, kept.script.many);
        isSet = false;
        // What was SET follows from the WRITING and the RULES that were there when it was SET.
        if (kept.isSet && spare.sets(script.bytes, script.many, table, kept.setDropped)) {
            showSpare();
        }
        return answer(marked);
    }

    // ---- bytes

    private static boolean isBlank(int b) {
        return b == 10 || b == 32;
    }

    private static boolean isDigit(int b) {
        return b >= 48 && b <= 57;
    }

    private static boolean isSmall(int b) {
        return b >= 97 && b <= 122;
    }

    private static boolean isGreat(int b) {
        return b >= 65 && b <= 90;
    }

    private static boolean isLetter(int b) {
        return isSmall(b) || isGreat(b);
    }

    /** 1 (a, A) to 26 of a letter's byte: small and great ones have the same last five bits. */
    private static int letterOf(int b) {
        return b & 31;
    }

    /** The letter whose RULE stands for a digit: a for 1 .. i for 9, j for 0. */
    private static int letterOfDigit(int b) {
        return b == 48 ? 10 : b - 48;
    }

    private static int wordEnd(int[] text, int n, int from) {
        int to = from;
        while (to < n && isLetter(text[to])) {
            to++;
        }
        return to;
    }

    /** The four TRAYS; its calls but isTray, isSort and whyNoPlace ask for one that is there. */
    private static final class Trays {

        static final int MOST = 60;
        static final int TRAYS = 4;
        static final int SORTS = 4;

        private final long[] numbers = new long[TRAYS * MOST];
        private final int[] sorts = new int[TRAYS];
        private final int[] sizes = new int[TRAYS];

        Trays() {
            for (int k = 0; k < TRAYS; k++) {
                sizes[k] = NONE;
            }
        }

        boolean isTray(int tray) {
            return tray >= 0 && tray < TRAYS;
        }

        boolean isSort(int sort) {
            return sort >= 0 && sort < SORTS;
        }

        boolean isMissing(int tray) {
            return sizes[tray] == NONE;
        }

        int sortOf(int tray) {
            return sorts[tray];
        }

        boolean hasFrom(int tray, int place, int many) {
            return place >= 0 && many >= 0 && sizes[tray] - place >= many;
        }

        int whyNoPlace(int tray, int place) {
            if (!isTray(tray)) {
                return BAD_NUMBER;
            }
            if (isMissing(tray)) {
                return MISSING;
            }
            return place < 0 || place >= sizes[tray] ? NO_PLACE : OK;
        }

        void lay(int tray, int sort, int many) {
            sorts[tray] = sort;
            sizes[tray] = many;
            for (int k = 0; k < many; k++) {
                numbers[tray * MOST + k] = 0;
            }
        }

        void put(int tray, int place, long v) {
            long cut = v;
            if (sorts[tray] == 0) {
                cut = (byte) v;
            } else if (sorts[tray] == 1) {
                cut = (short) v;
            } else if (sorts[tray] == 2) {
                cut = (int) v;
            }
            numbers[tray * MOST + place] = cut;
        }

        long numberAt(int tray, int place) {
            return numbers[tray * MOST + place];
        }

        void move(int from, int place, int to, int at, int many) {
            System.arraycopy(numbers, from * MOST + place, numbers, to * MOST + at, many);
        }

        boolean areWithin(int tray, int many, int least) {
            for (int k = 0; k < many; k++) {
                long v = numberAt(tray, k);
                if (v < least || v > LAST_CELL) {
                    return false;
                }
            }
            return true;
        }
    }

    /** The RULES and signs of a PRESS, and which RULES are DROPPED. */
    private static final class Table {

        int rules = 0;
        int dropped = 0;
        final int[] signs = new int[SIGNS];
        final int[] letterCount = new int[MOST_RULES];
        final int[] cellCount = new int[MOST_RULES];
        final int[] cond = new int[MOST_RULES];
        private final int[] letter = new int[MOST_RULES * MOST_LETTERS];
        private final int[] cell = new int[MOST_RULES * MOST_CELLS];

        Table() {
            signs[LINE] = 32;
            signs[PAGE] = 25;
        }

        void empty() {
            rules = 0;
            dropped = 0;
            signs[CAPITAL] = 0;
            signs[NUMBER] = 0;
            signs[HYPHEN] = 0;
            signs[LINE] = 32;
            signs[PAGE] = 25;
        }

        void copyOf(Table other) {
            rules = other.rules;
            dropped = other.dropped;
            System.arraycopy(other.signs, 0, signs, 0, SIGNS);
            System.arraycopy(other.letterCount, 0, letterCount, 0, MOST_RULES);
            System.arraycopy(other.cellCount, 0, cellCount, 0, MOST_RULES);
            System.arraycopy(other.cond, 0, cond, 0, MOST_RULES);
            System.arraycopy(other.letter, 0, letter, 0, MOST_RULES * MOST_LETTERS);
            System.arraycopy(other.cell, 0, cell, 0, MOST_RULES * MOST_CELLS);
        }

        boolean has(int rule) {
            return rule >= 0 && rule < rules;
        }

        boolean isThere(int rule) {
            return isIn(rule, dropped);
        }

        private static boolean isIn(int rule, int without) {
            return ((without >> rule) & 1) == 0;
        }

        int letterAt(int rule, int k) {
            return letter[rule * MOST_LETTERS + k];
        }

        int cellAt(int rule, int k) {
            return cell[rule * MOST_CELLS + k];
        }

        void putLetter(int rule, int k, int v) {
            letter[rule * MOST_LETTERS + k] = v;
        }

        void putCell(int rule, int k, int v) {
            cell[rule * MOST_CELLS + k] = v;
        }

        boolean isSameRule(int a, int b) {
            if (letterCount[a] != letterCount[b] || cond[a] != cond[b]) {
                return false;
            }
            for (int k = 0; k < letterCount[a]; k++) {
                if (letterAt(a, k) != letterAt(b, k)) {
                    return false;
                }
            }
            return true;
        }

        boolean condHolds(int rule, boolean begins, boolean ends) {
            switch (cond[rule]) {
                case 1:
                    return begins && !ends;
                case 2:
                    return !begins && !ends;
                case 3:
                    return !begins && ends;
                case 4:
                    return begins && ends;
                default:
                    return true;
            }
        }

        /** Whether a RULE may stand at a letter of the WORD that goes from a byte to another. */
        boolean mayStand(int rule, int[] text, int from, int to, int at) {
            int end = at + letterCount[rule];
            if (end > to || letterOf(text[at]) != letterAt(rule, 0)) {
                return false;
            }
            for (int k = at + 1; k < end; k++) {
                if (isGreat(text[k]) || letterOf(text[k]) != letterAt(rule, k - at)) {
                    return false;
                }
            }
            return condHolds(rule, at == from, end == to);
        }

        int longestRule(int[] text, int from, int to, int at, int without) {
            int best = NONE;
            int most = 0;
            for (int r = 0; r < rules; r++) {
                boolean more = letterCount[r] > most && isIn(r, without);
                if (more && mayStand(r, text, from, to, at)) {
                    best = r;
                    most = letterCount[r];
                }
            }
            return best;
        }

        /** The RULE without a COND that is just this letter. */
        int plainRule(int wanted, int without) {
            for (int r = 0; r < rules; r++) {
                boolean just = letterCount[r] == 1 && cond[r] == 0 && letterAt(r, 0) == wanted;
                if (just && isIn(r, without)) {
                    return r;
                }
            }
            return NONE;
        }

        /** Whether the first one's CELLS are the beginning of the second one's, or all. */
        boolean begins(int a, int b) {
            return cellCount[a] <= cellCount[b] && areAlike(a, 0, b, 0, cellCount[a]);
        }

        boolean areAlike(int a, int fromA, int b, int fromB, int many) {
            for (int k = 0; k < many; k++) {
                if (cellAt(a, fromA + k) != cellAt(b, fromB + k)) {
                    return false;
                }
            }
            return true;
        }

        boolean areMirrors(int a, int b) {
            if (cellCount[a] != cellCount[b]) {
                return false;
            }
            for (int k = 0; k < cellCount[a]; k++) {
                if (mirrorOf(cellAt(a, k)) != cellAt(b, k)) {
                    return false;
                }
            }
            return true;
        }

        int unlikeDots(int a, int b) {
            int unlike = 0;
            for (int k = 0; k < cellCount[a]; k++) {
                unlike += Integer.bitCount(cellAt(a, k) ^ cellAt(b, k));
            }
            return unlike;
        }

        int twinCouples() {
            int couples = 0;
            for (int a = 0; a < rules; a++) {
                for (int b = a + 1; b < rules; b++) {
                    boolean both = isThere(a) && isThere(b);
                    if (both && begins(a, b) && begins(b, a)) {
                        couples++;
                    }
                }
            }
            return couples;
        }

        int clashingCouples() {
            int couples = 0;
            for (int a = 0; a < rules; a++) {
                for (int b = 0; b < rules; b++) {
                    if (a != b && isThere(a) && isThere(b) && begins(a, b)) {
                        couples++;
                    }
                }
            }
            return couples;
        }
    }

    /** Reads the TEXT of a PRESS, TOKEN by TOKEN, into a table of its own. */
    private static final class Reader {

        private static final int WORD = 0;
        private static final int NUMERAL = 1;
        private static final int SEMICOLON = 2;
        private static final int END = 3;
        private static final int NO_TOKEN = 4;

        private static final int AT_PART = 0;
        private static final int AT_LETTERS = 1;
        private static final int AT_CELLS_WORD = 2;
        private static final int AT_FIRST_CELL = 3;
        private static final int AT_MORE_CELLS = 4;
        private static final int AT_RULE_END = 5;
        private static final int AT_SIGN = 6;
        private static final int AT_SIGN_END = 7;

        final Table table = new Table();
        int fault = 0;
        int place = NONE;
        private int kind = END;
        private int from = 0;
        private int to = 0;
        private int value = 0;
        private int awaited = AT_PART;
        private int sign = 0;
        private int signsTold = 0;

        boolean takes(int[] text, int n) {
            table.empty();
            fault = 0;
            place = NONE;
            to = 0;
            awaited = AT_PART;
            signsTold = 0;
            boolean more = true;
            for (int k = 0; k <= n && more; k++) {
                nextToken(text, n);
                fault = faultOfToken(text);
                more = fault == 0 && kind != END;
            }
            if (fault != 0) {
                place = from;
            }
            return fault == 0;
        }

        private void nextToken(int[] text, int n) {
            from = to;
            while (from < n && isBlank(text[from])) {
                from++;
            }
            to = from;
            value = 0;
            if (from >= n) {
                kind = END;
            } else if (isSmall(text[from])) {
                kind = WORD;
                while (to < n && isSmall(text[to])) {
                    to++;
                }
            } else if (isDigit(text[from])) {
                nextNumeral(text, n);
            } else {
                kind = text[from] == ';' ? SEMICOLON : NO_TOKEN;
                to++;
            }
        }

        private void nextNumeral(int[] text, int n) {
            while (to < n && isDigit(text[to])) {
                if (to - from < 4) {
                    value = value * 10 + text[to] - 48;
                }
                to++;
            }
            kind = to - from > 4 ? NO_TOKEN : NUMERAL;
        }

        private boolean isWord(int[] text, String word) {
            if (kind != WORD || to - from != word.length()) {
                return false;
            }
            for (int k = 0; k < word.length(); k++) {
                if (text[from + k] != word.charAt(k)) {
                    return false;
                }
            }
            return true;
        }

        private int faultOfToken(int[] text) {
            if (kind == NO_TOKEN) {
                return 1;
            }
            if (kind == END) {
                return awaited == AT_PART ? 0 : 2;
            }
            switch (awaited) {
                case AT_PART:
                    return takePart(text);
                case AT_LETTERS:
                    return takeLetters(text);
                case AT_CELLS_WORD:
                    awaited = AT_FIRST_CELL;
                    return isWord(text, "cells") ? 0 : 2;
                case AT_FIRST_CELL:
                    return kind == NUMERAL ? takeCell() : 2;
                case AT_MORE_CELLS:
                    return takeMore(text);
                case AT_RULE_END:
                    return kind == SEMICOLON ? takeRule() : 2;
                case AT_SIGN:
                    return kind == NUMERAL ? takeSign() : 2;
                default:
                    awaited = AT_PART;
                    return kind == SEMICOLON ? 0 : 2;
            }
        }

        private int takePart(int[] text) {
            if (isWord(text, "rule")) {
                awaited = AT_LETTERS;
                return table.rules >= MOST_RULES ? 6 : 0;
            }
            sign = signNamed(text);
            if (sign == NONE) {
                return 2;
            }
            int bit = 1 << sign;
            if ((signsTold & bit) != 0) {
                return 5;
            }
            signsTold |= bit;
            awaited = AT_SIGN;
            return 0;
        }

        private int signNamed(int[] text) {
            if (isWord(text, "capital")) {
                return CAPITAL;
            }
            if (isWord(text, "number")) {
                return NUMBER;
            }
            if (isWord(text, "hyphen")) {
                return HYPHEN;
            }
            if (isWord(text, "line")) {
                return LINE;
            }
            return isWord(text, "page") ? PAGE : NONE;
        }

        private int takeLetters(int[] text) {
            int many = to - from;
            if (kind != WORD || many > MOST_LETTERS) {
                return 2;
            }
            int rule = table.rules;
            table.letterCount[rule] = many;
            table.cellCount[rule] = 0;
            table.cond[rule] = 0;
            for (int k = 0; k < many; k++) {
                table.putLetter(rule, k, letterOf(text[from + k]));
            }
            awaited = AT_CELLS_WORD;
            return 0;
        }

        private int takeCell() {
            if (value < 1 || value > LAST_CELL) {
                return 4;
            }
            int rule = table.rules;
            int k = table.cellCount[rule];
            if (k >= MOST_CELLS) {
                return 5;
            }
            table.putCell(rule, k, value);
            table.cellCount[rule] = k + 1;
            awaited = AT_MORE_CELLS;
            return 0;
        }

        private int takeMore(int[] text) {
            if (kind == NUMERAL) {
                return takeCell();
            }
            if (kind == SEMICOLON) {
                return takeRule();
            }
            int cond = condNamed(text);
            if (cond == 0) {
                return 2;
            }
            table.cond[table.rules] = cond;
            awaited = AT_RULE_END;
            return 0;
        }

        private int condNamed(int[] text) {
            if (isWord(text, "begin")) {
                return 1;
            }
            if (isWord(text, "middle")) {
                return 2;
            }
            if (isWord(text, "end")) {
                return 3;
            }
            return isWord(text, "alone") ? 4 : 0;
        }

        private int takeRule() {
            for (int r = 0; r < table.rules; r++) {
                if (table.isSameRule(r, table.rules)) {
                    return 3;
                }
            }
            table.rules++;
            awaited = AT_PART;
            return 0;
        }

        private int takeSign() {
            int least = 1;
            int most = LAST_CELL;
            if (sign == LINE) {
                least = 4;
                most = 40;
            } else if (sign == PAGE) {
                least = 2;
                most = 30;
            }
            if (value < least || value > most) {
                return 4;
            }
            table.signs[sign] = value;
            awaited = AT_SIGN_END;
            return 0;
        }
    }

    /** The bytes of the latest WRITING, and what can be told of them without SETTING it. */
    private static final class Script {

        final int[] bytes = new int[MOST_BYTES];
        int many = NONE;
        private final int[] work = new int[MOST_BYTES + 1];

        boolean isThere() {
            return many != NONE;
        }

        void take(int[] text, int n) {
            many = Math.min(n, MOST_BYTES);
            if (many > 0) {
                System.arraycopy(text, 0, bytes, 0, many);
            }
        }

        int greatLetters() {
            int found = 0;
            for (int k = 0; k < many; k++) {
                if (isGreat(bytes[k])) {
                    found++;
                }
            }
            return found;
        }

        private boolean beginsFigure(int k) {
            return isDigit(bytes[k]) && (k == 0 || !isDigit(bytes[k - 1]));
        }

        private boolean beginsWord(int k) {
            return isLetter(bytes[k]) && (k == 0 || !isLetter(bytes[k - 1]));
        }

        int figures() {
            int found = 0;
            for (int k = 0; k < many; k++) {
                if (beginsFigure(k)) {
                    found++;
                }
            }
            return found;
        }

        int mostOftenLetter() {
            for (int c = 1; c <= ALPHABET; c++) {
                work[c] = 0;
            }
            for (int k = 0; k < many; k++) {
                if (isLetter(bytes[k])) {
                    work[letterOf(bytes[k])]++;
                }
            }
            int best = 0;
            int most = 0;
            for (int c = 1; c <= ALPHABET; c++) {
                if (work[c] > most) {
                    best = c;
                    most = work[c];
                }
            }
            return best;
        }

        int placesOf(int rule, Table table) {
            int found = 0;
            int from = 0;
            int to = 0;
            for (int k = 0; k < many; k++) {
                if (beginsWord(k)) {
                    from = k;
                    to = wordEnd(bytes, many, k);
                }
                if (k < to && table.mayStand(rule, bytes, from, to, k)) {
                    found++;
                }
            }
            return found;
        }

        /** The CELLS of all letters by the RULES that are just those; NONE if one has none. */
        int plainLetterCells(Table table) {
            int found = 0;
            for (int k = 0; k < many; k++) {
                if (isLetter(bytes[k])) {
                    int rule = table.plainRule(letterOf(bytes[k]), table.dropped);
                    if (rule == NONE) {
                        return NONE;
                    }
                    found += table.cellCount[rule];
                }
            }
            return found;
        }

        /** The fewest CELLS that all letters' RULES could have, of a WRITING that can be SET. */
        int fewestLetterCells(Table table) {
            int found = 0;
            for (int k = 0; k < many; k++) {
                if (beginsWord(k)) {
                    found += fewestOfWord(k, wordEnd(bytes, many, k), table);
                }
            }
            return found;
        }

        /** From the WORD's end to its beginning: the fewest CELLS of what is left of it. */
        private int fewestOfWord(int from, int to, Table table) {
            work[to] = 0;
            for (int at = to - 1; at >= from; at--) {
                work[at] = NONE;
                for (int r = 0; r < table.rules; r++) {
                    if (table.isThere(r) && table.mayStand(r, bytes, from, to, at)) {
                        takeIfFewer(at, table.cellCount[r], work[at + table.letterCount[r]]);
                    }
                }
            }
            return work[from];
        }

        private void takeIfFewer(int at, int cells, int rest) {
            if (rest == NONE) {
                return;
            }
            int whole = cells + rest;
            if (work[at] == NONE || whole < work[at]) {
                work[at] = whole;
            }
        }
    }

    /** The CELLS of a WRITING as they are SET, and the RULE that SET each. */
    private static final class Setting {

        final int[] cells = new int[MOST_SET];
        final int[] setBy = new int[MOST_SET];
        final int[] uses = new int[MOST_RULES];
        int many = 0;
        /** How many of the CELLS are those of letters' RULES. */
        int letterCells = 0;
        /** The RULES that were DROPPED when it was SET. */
        int dropped = 0;
        int fault = 0;
        int place = NONE;
        private int wordFrom = 0;
        private int wordTo = 0;

        boolean sets(int[] text, int n, Table table, int without) {
            begin(without);
            int next = 0;
            boolean gap = false;
            for (int at = 0; at < n && fault == 0; at++) {
                if (at < next) {
                    continue;
                }
                if (isBlank(text[at])) {
                    gap = many > 0;
                    continue;
                }
                if (gap) {
                    add(0, NONE);
                    gap = false;
                }
                if (isDigit(text[at])) {
                    next = at + setDigit(text, at, table);
                } else if (isLetter(text[at])) {
                    next = at + setLetters(text, n, at, table);
                } else {
                    next = at + faulty(1, at);
                }
            }
            return fault == 0;
        }

        private void begin(int without) {
            many = 0;
            letterCells = 0;
            dropped = without;
            fault = 0;
            place = NONE;
            wordFrom = 0;
            wordTo = 0;
            for (int r = 0; r < MOST_RULES; r++) {
                uses[r] = 0;
            }
        }

        private void add(int cell, int rule) {
            if (many < MOST_SET) {
                cells[many] = cell;
                setBy[many] = rule;
                many++;
            }
        }

        private void addRule(int rule, Table table) {
            for (int k = 0; k < table.cellCount[rule]; k++) {
                add(table.cellAt(rule, k), rule);
            }
            uses[rule]++;
        }

        /** A byte with a FAULT ends the SETTING; it counts as one byte. */
        private int faulty(int kind, int at) {
            fault = kind;
            place = at;
            return 1;
        }

        /** How many bytes it SET. */
        private int setDigit(int[] text, int at, Table table) {
            int rule = table.plainRule(letterOfDigit(text[at]), dropped);
            if (table.signs[NUMBER] == 0 || rule == NONE) {
                return faulty(4, at);
            }
            if (at == 0 || !isDigit(text[at - 1])) {
                add(table.signs[NUMBER], NONE);
            }
            addRule(rule, table);
            return 1;
        }

        /** How many bytes it SET: those of a RULE's letters. */
        private int setLetters(int[] text, int n, int at, Table table) {
            if (at >= wordTo) {
                wordFrom = at;
                wordTo = wordEnd(text, n, at);
            }
            int rule = table.longestRule(text, wordFrom, wordTo, at, dropped);
            if (rule == NONE) {
                return faulty(3, at);
            }
            if (isGreat(text[at])) {
                if (table.signs[CAPITAL] == 0) {
                    return faulty(5, at);
                }
                add(table.signs[CAPITAL], NONE);
            }
            addRule(rule, table);
            letterCells += table.cellCount[rule];
            return table.letterCount[rule];
        }

        int usedInAll() {
            int all = 0;
            for (int r = 0; r < MOST_RULES; r++) {
                all += uses[r];
            }
            return all;
        }

        int dotsOf(int from, int to) {
            int dots = 0;
            for (int k = from; k < to; k++) {
                dots += Integer.bitCount(cells[k]);
            }
            return dots;
        }

        int densest(int side) {
            if (side > many) {
                return NONE;
            }
            int here = dotsOf(0, side);
            int most = here;
            for (int k = side; k < many; k++) {
                here += Integer.bitCount(cells[k]) - Integer.bitCount(cells[k - side]);
                most = Math.max(most, here);
            }
            return most;
        }

        int timesOf(int cell) {
            int times = 0;
            for (int k = 0; k < many; k++) {
                if (cells[k] == cell) {
                    times++;
                }
            }
            return times;
        }
    }

    /** The PIECES of what is SET, and the LINES into which they go. */
    private static final class Layout {

        final int[] pieceMany = new int[MOST_PIECES];
        final int[] pieceLine = new int[MOST_PIECES];
        int pieces = 0;
        /** Of a LINE: its first CELL as SET, how many of these it has, and 1 if HYPHEN ends it. */
        final int[] lineFrom = new int[MOST_LINES];
        final int[] lineMany = new int[MOST_LINES];
        private final int[] lineHyphen = new int[MOST_LINES];
        int lines = 0;
        private int width = 0;
        private final int[] least = new int[MOST_PIECES + 1];

        void lay(Setting setting, Table table) {
            pieces = 0;
            lines = 0;
            width = table.signs[LINE];
            int from = 0;
            for (int k = 1; k <= setting.many; k++) {
                if (k == setting.many || setting.cells[k] == 0) {
                    layPiece(from, k - from, table.signs[HYPHEN] != 0);
                    from = k + 1;
                }
            }
        }

        private void layPiece(int from, int many, boolean hyphened) {
            if (pieces >= MOST_PIECES) {
                return;
            }
            pieceMany[pieces] = many;
            int last = lines - 1;
            if (last >= 0 && lineMany[last] + 1 + many <= width) {
                lineMany[last] += 1 + many;
                pieceLine[pieces] = last;
            } else {
                pieceLine[pieces] = lines;
                layLines(from, many, hyphened);
            }
            pieces++;
        }

        /** A PIECE on new LINES, broken as often as what is left is longer than a LINE. */
        private void layLines(int from, int many, boolean hyphened) {
            int onEach = Math.max(1, hyphened ? width - 1 : width);
            int at = from;
            int left = many;
            for (; left > width; left -= onEach) {
                addLine(at, onEach, hyphened ? 1 : 0);
                at += onEach;
            }
            addLine(at, left, 0);
        }

        private void addLine(int from, int many, int hyphen) {
            if (lines < MOST_LINES) {
                lineFrom[lines] = from;
                lineMany[lines] = many;
                lineHyphen[lines] = hyphen;
                lines++;
            }
        }

        int lengthOf(int line) {
            return lineMany[line] + lineHyphen[line];
        }

        int shortBy(int line) {
            return width - lengthOf(line);
        }

        int hyphenCount() {
            int found = 0;
            for (int k = 0; k < lines; k++) {
                found += lineHyphen[k];
            }
            return found;
        }

        int longestPiece() {
            int best = 0;
            for (int k = 1; k < pieces; k++) {
                if (pieceMany[k] > pieceMany[best]) {
                    best = k;
                }
            }
            return best;
        }

        int raggedness() {
            int all = 0;
            for (int k = 0; k < lines - 1; k++) {
                all += shortBy(k) * shortBy(k);
            }
            return all;
        }

        /** NONE if a PIECE is longer than a LINE. */
        int leastRaggedness() {
            least[pieces] = 0;
            for (int k = pieces - 1; k >= 0; k--) {
                if (pieceMany[k] > width) {
                    return NONE;
                }
                least[k] = leastFrom(k);
            }
            return least[0];
        }

        /** The least with a LINE that begins with this PIECE; the last LINE counts nothing. */
        private int leastFrom(int piece) {
            int best = NONE;
            int length = NONE;
            for (int k = piece; k < pieces; k++) {
                length += 1 + pieceMany[k];
                if (length > width) {
                    return best;
                }
                int left = width - length;
                int here = k == pieces - 1 ? 0 : left * left + least[k + 1];
                if (best == NONE || here < best) {
                    best = here;
                }
            }
            return best;
        }
    }

    /** A ROW of CELLS, and its READINGS. */
    private static final class Rows {

        int firstMany = 0;
        int firstLetters = 0;
        final int[] firstRules = new int[MOST_ROW];
        private final int[] row = new int[MOST_ROW];
        private final int[] loose = new int[MOST_ROW];
        private int many = 0;
        /** How many READINGS what is left of the ROW has, from each place on. */
        private final int[] waysFrom = new int[MOST_ROW + 1];
        private final int[] text = new int[MOST_ROW * MOST_LETTERS];
        /** After so many RULES (none: 0): how many letters, how many of them SET, in how many CELLS. */
        private final int[] texted = new int[MOST_ROW + 1];
        private final int[] textSet = new int[MOST_ROW + 1];
        private final int[] cellsSet = new int[MOST_ROW + 1];

        void put(int k, int cell, int failed) {
            row[k] = cell;
            loose[k] = failed;
        }

        void count(int length, Table table) {
            many = length;
            waysFrom[many] = 1;
            for (int at = many - 1; at >= 0; at--) {
                int sum = 0;
                for (int r = 0; r < table.rules; r++) {
                    if (goesOn(r, at, table)) {
                        sum = Math.min(MOST_WAYS, sum + waysFrom[at + table.cellCount[r]]);
                    }
                }
                waysFrom[at] = sum;
            }
        }

        int readings() {
            return waysFrom[0];
        }

        /** Whether a RULE can stand in a READING at a place; its COND looks at the ROW's ends. */
        private boolean goesOn(int rule, int at, Table table) {
            int end = at + table.cellCount[rule];
            if (end > many || !table.isThere(rule) || waysFrom[end] == 0) {
                return false;
            }
            for (int k = at; k < end; k++) {
                if (((table.cellAt(rule, k - at) ^ row[k]) & ~loose[k]) != 0) {
                    return false;
                }
            }
            return table.condHolds(rule, at == 0, end == many);
        }

        /** Of a ROW that has a READING. */
        void findFirst(Table table) {
            firstMany = 0;
            firstLetters = 0;
            int next = 0;
            for (int at = 0; at < many; at++) {
                int rule = at == next ? lowestAt(at, table) : NONE;
                if (rule != NONE) {
                    firstRules[firstMany] = rule;
                    firstMany++;
                    firstLetters += table.letterCount[rule];
                    next = at + table.cellCount[rule];
                }
            }
        }

        private int lowestAt(int at, Table table) {
            for (int r = 0; r < table.rules; r++) {
                if (goesOn(r, at, table)) {
                    return r;
                }
            }
            return NONE;
        }

        int trueReadings(Table table) {
            return trueFrom(this, table, 0, 0);
        }

        /** How many READINGS that begin with the RULES chosen so far are TRUE. */
        private static int trueFrom(Rows rows, Table table, int depth, int at) {
            if (at >= rows.many || depth >= MOST_ROW) {
                return at == rows.many && rows.endsTrue(table, depth) ? 1 : 0;
            }
            int found = 0;
            for (int r = 0; r < table.rules; r++) {
                if (rows.goesOn(r, at, table) && rows.staysTrue(r, table, depth)) {
                    found += trueFrom(rows, table, depth + 1, at + table.cellCount[r]);
                }
            }
            return found;
        }

        /**
         * Puts a RULE's letters behind the others and SETS those that no letter behind them can
         * change any more: false if these do not give the ROW.
         */
        private boolean staysTrue(int rule, Table table, int depth) {
            int length = texted[depth];
            for (int k = 0; k < table.letterCount[rule]; k++) {
                text[length + k] = 96 + table.letterAt(rule, k);
            }
            length += table.letterCount[rule];
            texted[depth + 1] = length;
            textSet[depth + 1] = textSet[depth];
            cellsSet[depth + 1] = cellsSet[depth];
            return setText(table, depth + 1, length - MOST_LETTERS);
        }

        private boolean endsTrue(Table table, int depth) {
            return setText(table, depth, texted[depth]) && cellsSet[depth] == many;
        }

        /** SETS the letters ahead of a bound, as far as they give the ROW. */
        private boolean setText(Table table, int depth, int bound) {
            int length = texted[depth];
            for (int at = textSet[depth]; at < bound; at++) {
                if (at == textSet[depth]) {
                    int rule = table.longestRule(text, 0, length, at, table.dropped);
                    if (rule == NONE || !giveRow(rule, cellsSet[depth], table)) {
                        return false;
                    }
                    textSet[depth] += table.letterCount[rule];
                    cellsSet[depth] += table.cellCount[rule];
                }
            }
            return true;
        }

        private boolean giveRow(int rule, int at, Table table) {
            if (at + table.cellCount[rule] > many) {
                return false;
            }
            for (int k = 0; k < table.cellCount[rule]; k++) {
                if (table.cellAt(rule, k) != row[at + k]) {
                    return false;
                }
            }
            return true;
        }
    }

    /** Whether rows of RULES can be told apart by their CELLS alone. */
    private static final class Code {

        private static final int FAR = 1000000;
        private static final int STATES = MOST_RULES * MOST_CELLS;

        /**
         * Two rows of RULES, one ahead of the other by the last CELLS of a RULE, from a place of
         * it on: by (RULE, place) how many CELLS the longer one has at least.
         */
        private final int[] reached = new int[STATES];
        private int shortest = FAR;

        /** The fewest CELLS that two unlike rows of RULES have in common; NONE if there are none. */
        int shortestTwin(Table table) {
            shortest = FAR;
            for (int k = 0; k < STATES; k++) {
                reached[k] = FAR;
            }
            for (int a = 0; a < table.rules; a++) {
                for (int b = 0; b < table.rules; b++) {
                    boolean both = a != b && table.isThere(a) && table.isThere(b);
                    if (both && table.begins(a, b)) {
                        reach(b, table.cellCount[a], table.cellCount[b], table);
                    }
                }
            }
            boolean more = true;
            for (int k = 0; k < STATES && more; k++) {
                more = goOn(table);
            }
            return shortest == FAR ? NONE : shortest;
        }

        private boolean reach(int rule, int place, int cells, Table table) {
            if (place >= table.cellCount[rule]) {
                shortest = Math.min(shortest, cells);
                return false;
            }
            int state = rule * MOST_CELLS + place;
            boolean sooner = cells < reached[state];
            if (sooner) {
                reached[state] = cells;
            }
            return sooner;
        }

        private boolean goOn(Table table) {
            boolean changed = false;
            for (int state = 0; state < STATES; state++) {
                for (int r = 0; reached[state] < FAR && r < table.rules; r++) {
                    if (table.isThere(r) && append(state, r, table)) {
                        changed = true;
                    }
                }
            }
            return changed;
        }

        /** A RULE more behind the shorter row: true if it comes sooner than known to a state. */
        private boolean append(int state, int next, Table table) {
            int rule = state / MOST_CELLS;
            int place = state % MOST_CELLS;
            int ahead = table.cellCount[rule] - place;
            int more = table.cellCount[next];
            if (!table.areAlike(rule, place, next, 0, Math.min(ahead, more))) {
                return false;
            }
            if (more <= ahead) {
                return reach(rule, place + more, reached[state], table);
            }
            return reach(next, ahead, reached[state] + more - ahead, table);
        }
    }

    /** Dots that wear off by draws, and the CELLS as they were left. */
    private static final class Wear {

        final int[] cells = new int[MOST_SET];
        int many = 0;
        private int drawn = 0;

        int wearOff(Setting setting, int seed, int sixteenths) {
            drawn = seed;
            many = setting.many;
            int gone = 0;
            for (int k = 0; k < many; k++) {
                cells[k] = leftOf(setting.cells[k], sixteenths);
                gone += Integer.bitCount(setting.cells[k]) - Integer.bitCount(cells[k]);
            }
            return gone;
        }

        boolean leavesNoneBare(Setting setting, int seed, int sixteenths) {
            drawn = seed;
            for (int k = 0; k < setting.many; k++) {
                if (setting.cells[k] != 0 && leftOf(setting.cells[k], sixteenths) == 0) {
                    return false;
                }
            }
            return true;
        }

        private int leftOf(int cell, int sixteenths) {
            int left = cell;
            for (int dot = 1; dot <= LAST_CELL; dot <<= 1) {
                if ((cell & dot) != 0) {
                    drawn = (drawn * 2801 + 10163) % 65536;
                    if (drawn / 8 % 16 < sixteenths) {
                        left &= ~dot;
                    }
                }
            }
            return left;
        }
    }

    /** What a MARK keeps: what is SET is kept by what it follows from. */
    private static final class Mark {

        final Table table = new Table();
        final Script script = new Script();
        boolean isSet = false;
        int setDropped = 0;

        void keep(Table nowTable, Script nowScript, boolean nowSet, int nowDropped) {
            table.copyOf(nowTable);
            script.take(nowScript.bytes, nowScript.many);
            isSet = nowSet;
            setDropped = nowDropped;
        }
    }
}

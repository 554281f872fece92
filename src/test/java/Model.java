import java.math.BigInteger;
import java.util.ArrayDeque;
import java.util.ArrayList;
import java.util.Arrays;
import java.util.Comparator;
import java.util.HashMap;
import java.util.List;
import java.util.Map;
import java.util.PriorityQueue;
import java.util.TreeSet;
import java.util.regex.Matcher;
import java.util.regex.Pattern;

/**
 * The document once more, told plainly and slowly with the whole Java library, for OracleTest: every
 * call bears the name of the class's and is due to answer the same.
 */
public final class Model {

    private record Rule(String letters, List<Integer> cells, int cond) {
    }

    private record SetCell(int cell, int by, char kind) {
    }

    private record Line(List<Integer> cells, TreeSet<Integer> pieces, boolean hyphened) {
    }

    private record Kept(List<Rule> rules, Map<String, Integer> signs, TreeSet<Integer> dropped,
        String writing, List<SetCell> set) {
    }

    private static final class Fault extends Exception {
        private static final long serialVersionUID = 1L;
        final int kind;
        final int place;

        Fault(int kind, int place) {
            this.kind = kind;
            this.place = place;
        }
    }

    private static final List<String> CONDS = List.of("", "begin", "middle", "end", "alone");
    private static final List<String> SIGNS = List.of("capital", "number", "hyphen", "line", "page");
    private static final int ROOM = 900;

    private int status = 0;
    private long top = 0;
    private long bottom = 1;
    private int faultKind = -1;
    private int faultPlace = -1;
    private String tape = "";
    private final long[][] trays = new long[4][];
    private final int[] sorts = new int[4];
    private List<Rule> rules = new ArrayList<>();
    private Map<String, Integer> signs = noSigns();
    private TreeSet<Integer> dropped = new TreeSet<>();
    private String writing = null;
    private List<SetCell> set = null;
    private List<Integer> first = null;
    private int firstLetters = 0;
    private List<Integer> worn = List.of();
    private final ArrayDeque<Kept> marks = new ArrayDeque<>();

    private static Map<String, Integer> noSigns() {
        Map<String, Integer> signs = new HashMap<>();
        signs.put("line", 32);
        signs.put("page", 25);
        return signs;
    }

    private int no(int why) {
        status = why;
        return -1;
    }

    private int yes(int answer) {
        status = 0;
        return answer;
    }

    public int status() {
        return status;
    }

    public long top() {
        return top;
    }

    public long bottom() {
        return bottom;
    }

    public boolean tray(int tray, int sort, int many) {
        if (tray < 0 || tray > 3 || sort < 0 || sort > 3 || many < 0 || many > 60) {
            no(1);
            return false;
        }
        trays[tray] = new long[many];
        sorts[tray] = sort;
        return yes(1) == 1;
    }

    private int whyNot(int tray, int place) {
        if (tray < 0 || tray > 3) {
            return 1;
        }
        if (trays[tray] == null) {
            return 2;
        }
        return place < 0 || place >= trays[tray].length ? 3 : 0;
    }

    public boolean write(int tray, int place, long v) {
        status = whyNot(tray, place);
        if (status != 0) {
            return false;
        }
        int bits = 8 << sorts[tray];
        trays[tray][place] = v << (64 - bits) >> (64 - bits);
        return true;
    }

    public long read(int tray, int place) {
        status = whyNot(tray, place);
        return status != 0 ? -1 : trays[tray][place];
    }

    public boolean pour(int from, int place, int to, int at, int many) {
        if (from < 0 || from > 3 || to < 0 || to > 3 || place < 0 || at < 0 || many < 0) {
            return no(1) == 0;
        }
        if (trays[from] == null || trays[to] == null) {
            return no(2) == 0;
        }
        if (sorts[from] != sorts[to]) {
            return no(8) == 0;
        }
        if ((long) place + many > trays[from].length || (long) at + many > trays[to].length) {
            return no(3) == 0;
        }
        long[] moved = Arrays.copyOfRange(trays[from], place, place + many);
        for (int k = 0; k < many; k++) {
            trays[to][at + k] = moved[k];
        }
        return yes(1) == 1;
    }

    public int feed(int a, int b, int c, int d, int e) {
        if (tape.length() > ROOM - 20) {
            return -1;
        }
        StringBuilder more = new StringBuilder(tape);
        for (int v : new int[] {a, b, c, d, e}) {
            more.append((char) (v >>> 24)).append((char) (v >>> 16 & 255));
            more.append((char) (v >>> 8 & 255)).append((char) (v & 255));
        }
        tape = more.toString();
        return tape.length();
    }

    // ---- the PRESS

    private record Token(String text, int place) {
        boolean isWord() {
            return !text.isEmpty() && text.charAt(0) >= 'a' && text.charAt(0) <= 'z';
        }

        boolean isNumber() {
            return !text.isEmpty() && text.charAt(0) >= '0' && text.charAt(0) <= '9';
        }

        boolean isBad() {
            return !text.isEmpty() && !text.matches("[a-z]+|[0-9]{1,4}|;");
        }
    }

    private List<Token> tokens = List.of();
    private int nextToken = 0;

    private Token take() throws Fault {
        Token token = tokens.get(nextToken);
        nextToken++;
        if (token.isBad()) {
            throw new Fault(1, token.place());
        }
        return token;
    }

    private void takeEnd() throws Fault {
        Token token = take();
        if (!token.text().equals(";")) {
            throw new Fault(2, token.place());
        }
    }

    private int takeNumber(int least, int most) throws Fault {
        Token token = take();
        if (!token.isNumber()) {
            throw new Fault(2, token.place());
        }
        int value = Integer.parseInt(token.text());
        if (value < least || value > most) {
            throw new Fault(4, token.place());
        }
        return value;
    }

    public int press(int n) {
        if (n < 0 || n > tape.length()) {
            return no(1);
        }
        String text = tape.substring(0, n);
        tape = "";
        List<Token> found = new ArrayList<>();
        Matcher m = Pattern.compile("[a-z]+|[0-9]+|[^ \\n]", Pattern.DOTALL).matcher(text);
        while (m.find()) {
            found.add(new Token(m.group(), m.start()));
        }
        found.add(new Token("", n));
        tokens = found;
        nextToken = 0;
        List<Rule> newRules = new ArrayList<>();
        Map<String, Integer> newSigns = noSigns();
        try {
            readParts(newRules, newSigns);
        } catch (Fault f) {
            faultKind = f.kind;
            faultPlace = f.place;
            return no(9);
        }
        faultKind = 0;
        faultPlace = -1;
        rules = newRules;
        signs = newSigns;
        dropped = new TreeSet<>();
        set = null;
        return yes(rules.size());
    }

    private void readParts(List<Rule> newRules, Map<String, Integer> newSigns) throws Fault {
        TreeSet<String> seen = new TreeSet<>();
        while (true) {
            Token token = take();
            if (token.text().isEmpty()) {
                return;
            }
            if (token.text().equals("rule")) {
                if (newRules.size() == 24) {
                    throw new Fault(6, token.place());
                }
                readRule(newRules);
            } else if (SIGNS.contains(token.text())) {
                if (!seen.add(token.text())) {
                    throw new Fault(5, token.place());
                }
                int least = token.text().equals("line") ? 4 : token.text().equals("page") ? 2 : 1;
                int most = token.text().equals("line") ? 40 : token.text().equals("page") ? 30 : 63;
                newSigns.put(token.text(), takeNumber(least, most));
                takeEnd();
            } else {
                throw new Fault(2, token.place());
            }
        }
    }

    private void readRule(List<Rule> newRules) throws Fault {
        Token letters = take();
        if (!letters.isWord() || letters.text().length() > 6) {
            throw new Fault(2, letters.place());
        }
        Token word = take();
        if (!word.text().equals("cells")) {
            throw new Fault(2, word.place());
        }
        List<Integer> cells = new ArrayList<>();
        cells.add(takeNumber(1, 63));
        int cond = 0;
        Token ends = take();
        while (ends.isNumber()) {
            nextToken--;
            cells.add(takeNumber(1, 63));
            if (cells.size() > 3) {
                throw new Fault(5, ends.place());
            }
            ends = take();
        }
        if (ends.isWord()) {
            cond = CONDS.indexOf(ends.text());
            if (cond < 1) {
                throw new Fault(2, ends.place());
            }
            ends = take();
        }
        if (!ends.text().equals(";")) {
            throw new Fault(2, ends.place());
        }
        for (Rule r : newRules) {
            if (r.letters().equals(letters.text()) && r.cond() == cond) {
                throw new Fault(3, ends.place());
            }
        }
        newRules.add(new Rule(letters.text(), cells, cond));
    }

    // ---- the WRITING

    private static boolean holds(int cond, boolean begins, boolean ends) {
        String at = begins ? (ends ? "alone" : "begin") : (ends ? "end" : "middle");
        return cond == 0 || CONDS.get(cond).equals(at);
    }

    private boolean stands(int rule, String word, int at) {
        String letters = rules.get(rule).letters();
        String there = word.substring(at);
        if (there.length() < letters.length()) {
            return false;
        }
        there = there.substring(0, letters.length());
        there = Character.toLowerCase(there.charAt(0)) + there.substring(1);
        return there.equals(letters) && holds(rules.get(rule).cond(), at == 0,
            at + letters.length() == word.length());
    }

    private List<Integer> standing(String word, int at, TreeSet<Integer> without) {
        List<Integer> found = new ArrayList<>();
        for (int r = 0; r < rules.size(); r++) {
            if (!without.contains(r) && stands(r, word, at)) {
                found.add(r);
            }
        }
        found.sort(Comparator.comparing((Integer r) -> -rules.get(r).letters().length()));
        return found;
    }

    private int single(char letter, TreeSet<Integer> without) {
        for (int r = 0; r < rules.size(); r++) {
            Rule rule = rules.get(r);
            if (!without.contains(r) && rule.cond() == 0
                && rule.letters().equals(String.valueOf(letter))) {
                return r;
            }
        }
        return -1;
    }

    private List<SetCell> setting(String text, TreeSet<Integer> without) throws Fault {
        List<SetCell> cells = new ArrayList<>();
        Pattern parts = Pattern.compile("[A-Za-z]+|[0-9]+|[ \\n]+|.", Pattern.DOTALL);
        Matcher m = parts.matcher(text);
        while (m.find()) {
            String part = m.group();
            if (part.matches("[ \\n]+")) {
                if (m.start() > 0 && m.end() < text.length()) {
                    cells.add(new SetCell(0, -1, 'b'));
                }
            } else if (part.matches("[A-Za-z]+")) {
                setWord(part, m.start(), without, cells);
            } else if (part.matches("[0-9]+")) {
                setFigure(part, m.start(), without, cells);
            } else {
                throw new Fault(1, m.start());
            }
        }
        return cells;
    }

    private void setWord(String word, int start, TreeSet<Integer> without, List<SetCell> cells)
        throws Fault {
        int at = 0;
        while (at < word.length()) {
            List<Integer> found = standing(word, at, without);
            if (found.isEmpty()) {
                throw new Fault(3, start + at);
            }
            if (Character.isUpperCase(word.charAt(at))) {
                if (!signs.containsKey("capital")) {
                    throw new Fault(5, start + at);
                }
                cells.add(new SetCell(signs.get("capital"), -1, 'c'));
            }
            Rule rule = rules.get(found.get(0));
            for (int cell : rule.cells()) {
                cells.add(new SetCell(cell, found.get(0), 'l'));
            }
            // The first CELL of a RULE used is told by a great L or D.
            int begin = cells.size() - rule.cells().size();
            cells.set(begin, new SetCell(cells.get(begin).cell(), found.get(0), 'L'));
            at += rule.letters().length();
        }
    }

    private void setFigure(String figure, int start, TreeSet<Integer> without,
        List<SetCell> cells) throws Fault {
        for (int k = 0; k < figure.length(); k++) {
            int rule = single("jabcdefghi".charAt(figure.charAt(k) - '0'), without);
            if (!signs.containsKey("number") || rule < 0) {
                throw new Fault(4, start + k);
            }
            if (k == 0) {
                cells.add(new SetCell(signs.get("number"), -1, 'n'));
            }
            for (int c = 0; c < rules.get(rule).cells().size(); c++) {
                cells.add(new SetCell(rules.get(rule).cells().get(c), rule, c == 0 ? 'D' : 'd'));
            }
        }
    }

    public int writing(int n) {
        if (n < 0 || n > tape.length() || n > 300) {
            return no(1);
        }
        String text = tape.substring(0, n);
        tape = "";
        try {
            set = setting(text, dropped);
        } catch (Fault f) {
            faultKind = f.kind;
            faultPlace = f.place;
            return no(9);
        }
        writing = text;
        faultKind = 0;
        faultPlace = -1;
        return yes(set.size());
    }

    public int fault(int what) {
        return what == 0 ? faultKind : what == 1 ? faultPlace : -1;
    }

    public int told(int what) {
        if (what < 0 || what > 6) {
            return no(1);
        }
        if (what == 0) {
            return yes(rules.size());
        }
        if (what == 6) {
            return yes(asBits(dropped));
        }
        Integer sign = signs.get(SIGNS.get(what - 1));
        return sign == null ? no(6) : yes(sign);
    }

    private static int asBits(Iterable<Integer> members) {
        int bits = 0;
        for (int member : members) {
            bits += (int) Math.pow(2, member);
        }
        return bits;
    }

    private boolean noRule(int rule) {
        return rule < 0 || rule >= rules.size();
    }

    public int rule(int rule, int what) {
        if (noRule(rule) || what < 0 || what > 2) {
            return no(1);
        }
        Rule r = rules.get(rule);
        return yes(List.of(r.letters().length(), r.cells().size(), r.cond()).get(what));
    }

    public int letter(int rule, int k) {
        if (noRule(rule)) {
            return no(1);
        }
        String letters = rules.get(rule).letters();
        return k < 0 || k >= letters.length() ? no(6) : yes(letters.charAt(k) - 'a' + 1);
    }

    public int cellOf(int rule, int k) {
        if (noRule(rule)) {
            return no(1);
        }
        List<Integer> cells = rules.get(rule).cells();
        return k < 0 || k >= cells.size() ? no(6) : yes(cells.get(k));
    }

    public boolean drop(int rule, boolean is) {
        if (noRule(rule)) {
            return no(1) == 0;
        }
        if (is) {
            dropped.add(rule);
        } else {
            dropped.remove(rule);
        }
        return yes(1) == 1;
    }

    // ---- what is SET

    public int reset() {
        if (writing == null) {
            return no(6);
        }
        try {
            set = setting(writing, dropped);
        } catch (Fault f) {
            return no(7);
        }
        return yes(set.size());
    }

    private List<List<Integer>> pieces() {
        List<List<Integer>> pieces = new ArrayList<>();
        List<Integer> piece = new ArrayList<>();
        for (SetCell c : set) {
            if (c.kind() == 'b') {
                pieces.add(piece);
                piece = new ArrayList<>();
            } else {
                piece.add(c.cell());
            }
        }
        if (!set.isEmpty()) {
            pieces.add(piece);
        }
        return pieces;
    }

    private List<Line> lines() {
        int width = signs.get("line");
        Integer hyphen = signs.get("hyphen");
        List<Line> lines = new ArrayList<>();
        List<List<Integer>> pieces = pieces();
        Line open = new Line(new ArrayList<>(), new TreeSet<>(), false);
        for (int p = 0; p < pieces.size(); p++) {
            List<Integer> left = pieces.get(p);
            if (!open.cells().isEmpty() && open.cells().size() + 1 + left.size() > width) {
                lines.add(open);
                open = new Line(new ArrayList<>(), new TreeSet<>(), false);
            }
            if (!open.cells().isEmpty()) {
                open.cells().add(0);
            }
            while (left.size() > width) {
                int taken = hyphen == null ? width : width - 1;
                List<Integer> whole = new ArrayList<>(left.subList(0, taken));
                if (hyphen != null) {
                    whole.add(hyphen);
                }
                lines.add(new Line(whole, new TreeSet<>(List.of(p)), hyphen != null));
                left = left.subList(taken, left.size());
            }
            open.cells().addAll(left);
            open.pieces().add(p);
        }
        if (!open.cells().isEmpty()) {
            lines.add(open);
        }
        return lines;
    }

    private int usedTimes(int rule) {
        int times = 0;
        for (SetCell c : set) {
            if ((c.kind() == 'L' || c.kind() == 'D') && (rule < 0 || c.by() == rule)) {
                times++;
            }
        }
        return times;
    }

    private int pageCount() {
        return (int) Math.ceil(lines().size() / (double) signs.get("page"));
    }

    public int size(int what) {
        if (what < 0 || what > 4) {
            return no(1);
        }
        if (set == null) {
            return no(6);
        }
        return yes(List.of(set.size(), lines().size(), pageCount(), pieces().size(),
            usedTimes(-1)).get(what));
    }

    private boolean noCell(int k) {
        return set == null || k < 0 || k >= set.size();
    }

    private boolean noLine(int line) {
        return set == null || line < 0 || line >= lines().size();
    }

    public int cell(int k) {
        return noCell(k) ? no(6) : yes(set.get(k).cell());
    }

    public int line(int line) {
        return noLine(line) ? no(6) : yes(lines().get(line).cells().size());
    }

    public int lineAt(int line, int k) {
        if (noLine(line)) {
            return no(6);
        }
        List<Integer> cells = lines().get(line).cells();
        return k < 0 || k >= cells.size() ? no(6) : yes(cells.get(k));
    }

    public int onPage(int page, int line, int place) {
        if (place < 0 || place >= signs.get("line") || line < 0 || line >= signs.get("page")) {
            return no(1);
        }
        if (set == null || page < 0 || page >= pageCount()) {
            return no(6);
        }
        int from = page * signs.get("page");
        List<Line> all = lines();
        List<Line> onIt = all.subList(from, Math.min(all.size(), from + signs.get("page")));
        if (line >= onIt.size()) {
            return no(6);
        }
        List<Integer> cells = onIt.get(line).cells();
        return yes(place < cells.size() ? cells.get(place) : 0);
    }

    public int hyphens() {
        return set == null ? no(6) : yes((int) lines().stream().filter(Line::hyphened).count());
    }

    public int used(int rule) {
        if (noRule(rule)) {
            return no(1);
        }
        return set == null ? no(6) : yes(usedTimes(rule));
    }

    public int useless() {
        if (set == null) {
            return no(6);
        }
        List<Integer> found = new ArrayList<>();
        for (int r = 0; r < rules.size(); r++) {
            if (!dropped.contains(r) && usedTimes(r) == 0) {
                found.add(r);
            }
        }
        return yes(asBits(found));
    }

    private static int dotsOf(int cell) {
        return Integer.toBinaryString(cell).replace("0", "").length();
    }

    public int dots() {
        return set == null ? no(6) : yes(set.stream().mapToInt(c -> dotsOf(c.cell())).sum());
    }

    private int plainCount() {
        int count = 0;
        for (SetCell c : set) {
            if ("bcnDd".indexOf(c.kind()) >= 0) {
                count++;
            }
        }
        for (char c : writing.toLowerCase().toCharArray()) {
            if (c >= 'a' && c <= 'z') {
                int rule = single(c, dropped);
                if (rule < 0) {
                    return -1;
                }
                count += rules.get(rule).cells().size();
            }
        }
        return count;
    }

    public int plain() {
        if (set == null) {
            return no(6);
        }
        int count = plainCount();
        return count < 0 ? no(7) : yes(count);
    }

    private Integer fewestOf(String word, int at, Map<Integer, Integer> known) {
        if (at == word.length()) {
            return 0;
        }
        if (known.containsKey(at)) {
            return known.get(at);
        }
        Integer best = null;
        for (int r : standing(word, at, dropped)) {
            Integer rest = fewestOf(word, at + rules.get(r).letters().length(), known);
            if (rest != null) {
                int here = rest + rules.get(r).cells().size();
                best = best == null ? here : Math.min(best, here);
            }
        }
        if (best != null && Character.isUpperCase(word.charAt(at))) {
            best++;
        }
        known.put(at, best);
        return best;
    }

    public int fewest() {
        if (set == null) {
            return no(6);
        }
        if (cellsWithout(dropped) == null) {
            return no(7);
        }
        int all = 0;
        Matcher m = Pattern.compile("[A-Za-z]+|[0-9]+|[ \\n]+").matcher(writing);
        while (m.find()) {
            if (m.group().matches("[A-Za-z]+")) {
                all += fewestOf(m.group(), 0, new HashMap<>());
            } else if (m.group().matches("[0-9]+")) {
                all += 1;
                for (char digit : m.group().toCharArray()) {
                    char letter = (char) (digit == '0' ? 'j' : digit + 48);
                    all += rules.get(single(letter, dropped)).cells().size();
                }
            } else if (m.start() > 0 && m.end() < writing.length()) {
                all++;
            }
        }
        return yes(all);
    }

    /** How many CELLS the WRITING would take without these RULES; null if it could not be SET. */
    private Integer cellsWithout(TreeSet<Integer> gone) {
        try {
            return setting(writing, gone).size();
        } catch (Fault f) {
            return null;
        }
    }

    private Integer cellsWithoutOneMore(int rule) {
        TreeSet<Integer> gone = new TreeSet<>(dropped);
        gone.add(rule);
        return cellsWithout(gone);
    }

    public int saving(int rule) {
        if (noRule(rule)) {
            return no(1);
        }
        if (set == null) {
            return no(6);
        }
        Integer now = cellsWithout(dropped);
        Integer then = cellsWithoutOneMore(rule);
        return now == null || then == null ? no(7) : yes(then - now);
    }

    public int cheapest() {
        if (set == null) {
            return no(6);
        }
        List<Integer> could = new ArrayList<>();
        for (int r = 0; r < rules.size(); r++) {
            if (!dropped.contains(r) && cellsWithoutOneMore(r) != null) {
                could.add(r);
            }
        }
        if (could.isEmpty()) {
            return no(6);
        }
        if (cellsWithout(dropped) == null) {
            return no(7);
        }
        return yes(could.stream().min(Comparator.comparing(this::cellsWithoutOneMore)).get());
    }

    public int piece(int k, int what) {
        if (what != 0 && what != 1) {
            return no(1);
        }
        if (set == null || k < 0 || k >= pieces().size()) {
            return no(6);
        }
        if (what == 0) {
            return yes(pieces().get(k).size());
        }
        List<Line> all = lines();
        int line = 0;
        while (!all.get(line).pieces().contains(k)) {
            line++;
        }
        return yes(line);
    }

    public int by(int k) {
        return noCell(k) || set.get(k).by() < 0 ? no(6) : yes(set.get(k).by());
    }

    public int dense(int cells) {
        if (cells < 1 || cells > 40) {
            return no(1);
        }
        if (set == null) {
            return no(6);
        }
        if (cells > set.size()) {
            return no(7);
        }
        int most = 0;
        for (int k = 0; k + cells <= set.size(); k++) {
            int here = 0;
            for (SetCell c : set.subList(k, k + cells)) {
                here += dotsOf(c.cell());
            }
            most = Math.max(most, here);
        }
        return yes(most);
    }

    public int alike(int a, int b) {
        if (noLine(a) || noLine(b)) {
            return no(6);
        }
        int same = 0;
        for (int k = 0; k < lines().get(a).cells().size(); k++) {
            List<Integer> other = lines().get(b).cells();
            if (k < other.size() && other.get(k).equals(lines().get(a).cells().get(k))) {
                same++;
            }
        }
        return yes(same);
    }

    public int longest() {
        if (set == null || pieces().isEmpty()) {
            return no(6);
        }
        List<Integer> sizes = pieces().stream().map(List::size).toList();
        return yes(sizes.indexOf(sizes.stream().max(Comparator.naturalOrder()).get()));
    }

    public int inLine(int line) {
        return noLine(line) ? no(6) : yes(lines().get(line).pieces().size());
    }

    public int wasted(int line) {
        return noLine(line) ? no(6) : yes(signs.get("line") - lines().get(line).cells().size());
    }

    public int saved() {
        if (set == null) {
            return no(6);
        }
        int count = plainCount();
        return count < 0 ? no(7) : yes(count - set.size());
    }

    public int frequent() {
        if (set == null) {
            return no(6);
        }
        int best = 0;
        long most = 0;
        for (int c = 1; c <= 26; c++) {
            int letter = 'a' + c - 1;
            long times = writing.toLowerCase().chars().filter(b -> b == letter).count();
            if (times > most) {
                best = c;
                most = times;
            }
        }
        return best == 0 ? no(6) : yes(best);
    }

    public int pieceOf(int k) {
        if (noCell(k) || set.get(k).kind() == 'b') {
            return no(6);
        }
        return yes((int) set.subList(0, k).stream().filter(c -> c.kind() == 'b').count());
    }

    public int signs(int what) {
        if (what != 0 && what != 1) {
            return no(1);
        }
        if (set == null) {
            return no(6);
        }
        Matcher m = Pattern.compile(what == 0 ? "[A-Z]" : "[0-9]+").matcher(writing);
        return yes((int) m.results().count());
    }

    public int covers(int rule) {
        if (noRule(rule)) {
            return no(1);
        }
        if (set == null) {
            return no(6);
        }
        int found = 0;
        Matcher m = Pattern.compile("[A-Za-z]+").matcher(writing);
        while (m.find()) {
            for (int at = 0; at < m.group().length(); at++) {
                found += standing(m.group(), at, dropped).contains(rule) ? 1 : 0;
            }
        }
        return yes(found);
    }

    private int oftenOf(int cell) {
        return (int) set.stream().filter(c -> c.cell() == cell).count();
    }

    public int often(int cell) {
        if (cell < 0 || cell > 63) {
            return no(1);
        }
        return set == null ? no(6) : yes(oftenOf(cell));
    }

    public int commonest() {
        int best = 0;
        for (int c = 63; set != null && c >= 1; c--) {
            if (oftenOf(c) > 0 && (best == 0 || oftenOf(c) >= oftenOf(best))) {
                best = c;
            }
        }
        return best == 0 ? no(6) : yes(best);
    }

    public int ragged() {
        if (set == null) {
            return no(6);
        }
        int all = 0;
        List<Line> every = lines();
        for (Line l : every.subList(0, Math.max(0, every.size() - 1))) {
            all += (int) Math.pow(signs.get("line") - l.cells().size(), 2);
        }
        return yes(all);
    }

    public int leastRagged() {
        if (set == null) {
            return no(6);
        }
        List<Integer> sizes = pieces().stream().map(List::size).toList();
        int width = signs.get("line");
        if (sizes.stream().anyMatch(s -> s > width)) {
            return no(7);
        }
        // From the front: the least for LINES that hold just so many PIECES, none of them the last.
        int[] full = new int[sizes.size() + 1];
        int least = sizes.isEmpty() ? 0 : Integer.MAX_VALUE;
        for (int to = 1; to <= sizes.size(); to++) {
            full[to] = Integer.MAX_VALUE;
            for (int from = to - 1; from >= 0; from--) {
                int length = sizes.subList(from, to).stream().mapToInt(s -> s + 1).sum() - 1;
                if (length <= width) {
                    full[to] = Math.min(full[to], full[from] + (width - length) * (width - length));
                    least = to == sizes.size() ? Math.min(least, full[from]) : least;
                }
            }
        }
        return yes(least);
    }

    // ---- ROWS

    private int whyNoRow(int many, int... which) {
        for (int tray : which) {
            if (tray < 0 || tray > 3 || many < 1 || many > 20) {
                return 1;
            }
        }
        for (int tray : which) {
            if (trays[tray] == null) {
                return 2;
            }
        }
        for (int tray : which) {
            if (trays[tray].length < many) {
                return 3;
            }
        }
        for (int w = 0; w < which.length; w++) {
            for (int k = 0; k < many; k++) {
                long v = trays[which[w]][k];
                if (v < 1 - w || v > 63) {
                    return 5;
                }
            }
        }
        return 0;
    }

    private boolean fits(int rule, int at, int tray, int dots, int many) {
        List<Integer> cells = rules.get(rule).cells();
        if (dropped.contains(rule) || at + cells.size() > many
            || !holds(rules.get(rule).cond(), at == 0, at + cells.size() == many)) {
            return false;
        }
        for (int k = 0; k < cells.size(); k++) {
            for (int dot = 0; dot < 6; dot++) {
                boolean failed = dots >= 0 && (trays[dots][at + k] >> dot & 1) == 1;
                boolean same = (cells.get(k) >> dot & 1) == (trays[tray][at + k] >> dot & 1);
                if (!failed && !same) {
                    return false;
                }
            }
        }
        return true;
    }

    /** From the front: how many rows of RULES have just the first so many CELLS. */
    private int waysOf(int tray, int dots, int many) {
        BigInteger[] ways = new BigInteger[many + 1];
        Arrays.fill(ways, BigInteger.ZERO);
        ways[0] = BigInteger.ONE;
        for (int at = 0; at < many; at++) {
            for (int r = 0; r < rules.size(); r++) {
                if (fits(r, at, tray, dots, many)) {
                    int to = at + rules.get(r).cells().size();
                    ways[to] = ways[to].add(ways[at]);
                }
            }
        }
        return ways[many].min(BigInteger.valueOf(999999)).intValue();
    }

    /** READINGS in the order of their RULES' numbers, at most so many. */
    private void readings(int tray, int at, int many, List<Integer> ahead, boolean[] dead,
        int most, List<List<Integer>> found) {
        if (at == many) {
            found.add(new ArrayList<>(ahead));
            return;
        }
        int before = found.size();
        for (int r = 0; r < rules.size() && found.size() < most; r++) {
            int to = at + rules.get(r).cells().size();
            if (fits(r, at, tray, -1, many) && !dead[to]) {
                ahead.add(r);
                readings(tray, to, many, ahead, dead, most, found);
                ahead.remove(ahead.size() - 1);
            }
        }
        dead[at] = found.size() == before;
    }

    private List<List<Integer>> readingsOf(int tray, int many, int most) {
        List<List<Integer>> found = new ArrayList<>();
        readings(tray, 0, many, new ArrayList<>(), new boolean[many + 4], most, found);
        return found;
    }

    public int ways(int tray, int many) {
        int why = whyNoRow(many, tray);
        return why != 0 ? no(why) : yes(waysOf(tray, -1, many));
    }

    private String lettersOf(List<Integer> reading) {
        StringBuilder word = new StringBuilder();
        for (int r : reading) {
            word.append(rules.get(r).letters());
        }
        return word.toString();
    }

    public int first(int tray, int many) {
        int why = whyNoRow(many, tray);
        if (why != 0) {
            return no(why);
        }
        List<List<Integer>> found = readingsOf(tray, many, 1);
        if (found.isEmpty()) {
            return no(6);
        }
        first = found.get(0);
        firstLetters = lettersOf(first).length();
        return yes(first.size());
    }

    public int firstAt(int k) {
        return first == null || k < 0 || k >= first.size() ? no(6) : yes(first.get(k));
    }

    public int letters() {
        return first == null ? no(6) : yes(firstLetters);
    }

    public int truths(int tray, int many) {
        int why = whyNoRow(many, tray);
        if (why != 0) {
            return no(why);
        }
        if (waysOf(tray, -1, many) > 9999) {
            return no(7);
        }
        int found = 0;
        for (List<Integer> reading : readingsOf(tray, many, 10000)) {
            List<SetCell> cells = new ArrayList<>();
            try {
                setWord(lettersOf(reading), 0, dropped, cells);
            } catch (Fault f) {
                continue;
            }
            boolean same = cells.size() == many;
            for (int k = 0; same && k < many; k++) {
                same = cells.get(k).cell() == trays[tray][k];
            }
            found += same ? 1 : 0;
        }
        return yes(found);
    }

    public int failed(int tray, int dots, int many) {
        int why = whyNoRow(many, tray, dots);
        return why != 0 ? no(why) : yes(waysOf(tray, dots, many));
    }

    // ---- the table

    private static int mirrored(int cell) {
        int[] other = {3, 4, 5, 0, 1, 2};
        int mirror = 0;
        for (int dot = 0; dot < 6; dot++) {
            mirror += (cell >> dot & 1) << other[dot];
        }
        return mirror;
    }

    public int mirror(int cell) {
        return cell < 1 || cell > 63 ? no(1) : yes(mirrored(cell));
    }

    public int turned(int rule) {
        if (noRule(rule)) {
            return no(1);
        }
        List<Integer> wanted = rules.get(rule).cells().stream().map(Model::mirrored).toList();
        for (int r = 0; r < rules.size(); r++) {
            if (rules.get(r).cells().equals(wanted)) {
                return yes(r);
            }
        }
        return no(6);
    }

    public int twins() {
        int couples = 0;
        for (int a = 0; a < rules.size(); a++) {
            for (int b = 0; b < a; b++) {
                boolean same = rules.get(a).cells().equals(rules.get(b).cells());
                couples += same && !dropped.contains(a) && !dropped.contains(b) ? 1 : 0;
            }
        }
        return yes(couples);
    }

    public int near(int a, int b) {
        if (noRule(a) || noRule(b)) {
            return no(1);
        }
        List<Integer> ofA = rules.get(a).cells();
        List<Integer> ofB = rules.get(b).cells();
        if (ofA.size() != ofB.size()) {
            return no(7);
        }
        int unlike = 0;
        for (int k = 0; k < ofA.size(); k++) {
            unlike += dotsOf(ofA.get(k) ^ ofB.get(k));
        }
        return yes(unlike);
    }

    private String signsOf(int rule) {
        StringBuilder s = new StringBuilder();
        for (int cell : rules.get(rule).cells()) {
            s.append((char) (48 + cell));
        }
        return s.toString();
    }

    public int clash(int a, int b) {
        if (noRule(a) || noRule(b)) {
            return no(1);
        }
        return yes(signsOf(b).startsWith(signsOf(a)) ? 1 : 0);
    }

    public int clashes() {
        int couples = 0;
        for (int a = 0; a < rules.size(); a++) {
            for (int b = 0; b < rules.size(); b++) {
                boolean there = !dropped.contains(a) && !dropped.contains(b);
                couples += there && a != b && signsOf(b).startsWith(signsOf(a)) ? 1 : 0;
            }
        }
        return yes(couples);
    }

    private record Ahead(int length, String rest) {
    }

    private int shortestTwin() {
        PriorityQueue<Ahead> open = new PriorityQueue<>(Comparator.comparing(Ahead::length));
        List<String> words = new ArrayList<>();
        for (int r = 0; r < rules.size(); r++) {
            if (!dropped.contains(r)) {
                words.add(signsOf(r));
            }
        }
        for (int a = 0; a < words.size(); a++) {
            for (int b = 0; b < words.size(); b++) {
                if (a != b && words.get(b).startsWith(words.get(a))) {
                    String rest = words.get(b).substring(words.get(a).length());
                    open.add(new Ahead(words.get(b).length(), rest));
                }
            }
        }
        TreeSet<String> seen = new TreeSet<>();
        while (!open.isEmpty()) {
            Ahead here = open.poll();
            if (here.rest().isEmpty()) {
                return here.length();
            }
            if (seen.add(here.rest())) {
                for (String word : words) {
                    if (here.rest().startsWith(word)) {
                        open.add(new Ahead(here.length(), here.rest().substring(word.length())));
                    } else if (word.startsWith(here.rest())) {
                        String rest = word.substring(here.rest().length());
                        open.add(new Ahead(here.length() + rest.length(), rest));
                    }
                }
            }
        }
        return -1;
    }

    public int clear() {
        return yes(shortestTwin() < 0 ? 1 : 0);
    }

    public int twin() {
        int length = shortestTwin();
        return length < 0 ? no(6) : yes(length);
    }

    public int lacks() {
        List<Integer> found = new ArrayList<>();
        for (char c = 'a'; c <= 'z'; c++) {
            if (single(c, dropped) < 0) {
                found.add(c - 'a');
            }
        }
        return yes(asBits(found));
    }

    // ---- dots that wear off

    private List<Integer> wornCells(int seed, int sixteenths) {
        List<Integer> left = new ArrayList<>();
        long s = seed;
        for (SetCell c : set) {
            int cell = 0;
            for (int dot = 0; dot < 6; dot++) {
                if ((c.cell() >> dot & 1) == 1) {
                    s = (s * 2801 + 10163) % 65536;
                    cell += Math.floor(s / 8.0) % 16 < sixteenths ? 0 : 1 << dot;
                }
            }
            left.add(cell);
        }
        return left;
    }

    public int worn(int seed, int sixteenths) {
        if (seed < 0 || seed > 9999 || sixteenths < 0 || sixteenths > 16) {
            return no(1);
        }
        if (set == null) {
            return no(6);
        }
        worn = wornCells(seed, sixteenths);
        int before = set.stream().mapToInt(c -> dotsOf(c.cell())).sum();
        return yes(before - worn.stream().mapToInt(Model::dotsOf).sum());
    }

    public int wornAt(int k) {
        return k < 0 || k >= worn.size() ? no(6) : yes(worn.get(k));
    }

    public boolean odds(int seed, int many, int sixteenths) {
        if (seed < 0 || many < 1 || many > 20 || (long) seed + many - 1 > 9999 || sixteenths < 0
            || sixteenths > 16) {
            return no(1) == 0;
        }
        if (set == null) {
            return no(6) == 0;
        }
        int held = 0;
        for (int s = seed; s < seed + many; s++) {
            List<Integer> left = wornCells(s, sixteenths);
            boolean good = true;
            for (int k = 0; k < set.size(); k++) {
                good &= set.get(k).cell() == 0 || left.get(k) != 0;
            }
            held += good ? 1 : 0;
        }
        int common = BigInteger.valueOf(held).gcd(BigInteger.valueOf(many)).intValue();
        top = held / common;
        bottom = many / common;
        return yes(1) == 1;
    }

    // ---- MARKS

    public int mark() {
        if (marks.size() == 3) {
            return no(4);
        }
        marks.push(new Kept(rules, signs, new TreeSet<>(dropped), writing, set));
        return yes(marks.size());
    }

    public int back() {
        if (marks.isEmpty()) {
            return no(6);
        }
        Kept kept = marks.pop();
        rules = kept.rules();
        signs = kept.signs();
        dropped = new TreeSet<>(kept.dropped());
        writing = kept.writing();
        set = kept.set();
        return yes(marks.size());
    }
}

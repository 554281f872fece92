import java.lang.reflect.Method;
import java.util.ArrayList;
import java.util.Arrays;
import java.util.Comparator;
import java.util.List;
import java.util.Random;

/**
 * Long rows of calls, drawn from fixed seeds, on the class and on Model: every answer, STATUS, FAULT
 * and FRACTION must be the same. An object is used for at most 512 calls, those that ask for STATUS
 * counted. Arguments: how many rows of calls (800 without one), and the first seed.
 */
public final class OracleTest {

    /** No step of a row of calls takes more than a hundred. */
    private static final int CALLS = 400;
    private static final List<String> BESIDE = List.of("status", "top", "bottom", "feed", "press",
        "writing");

    private final Random random;
    private final RaisedPress press = new RaisedPress();
    private final Model model = new Model();
    private final List<String> told = new ArrayList<>();
    private final List<Method> asked;
    private final int letters;
    private final int cells;
    private final List<String> rules = new ArrayList<>();
    private final List<int[]> ruleCells = new ArrayList<>();
    private boolean wrong = false;
    private int calls = 0;

    private OracleTest(int seed) {
        random = new Random(seed);
        letters = 2 + random.nextInt(8);
        cells = 2 + random.nextInt(random.nextBoolean() ? 4 : 60);
        asked = new ArrayList<>();
        for (Method m : RaisedPress.class.getDeclaredMethods()) {
            if (java.lang.reflect.Modifier.isPublic(m.getModifiers())
                && !BESIDE.contains(m.getName())) {
                asked.add(m);
            }
        }
        asked.sort(Comparator.comparing(Method::getName));
    }

    public static void main(String[] args) throws Exception {
        int runs = args.length > 0 ? Integer.parseInt(args[0]) : 800;
        int from = args.length > 1 ? Integer.parseInt(args[1]) : 0;
        int wrong = 0;
        for (int seed = from; seed < from + runs && wrong < 5; seed++) {
            if (!new OracleTest(seed).run()) {
                System.out.println("OracleTest: the row of calls " + seed + " is wrong");
                wrong++;
            }
        }
        System.out.println("OracleTest: " + (wrong == 0 ? "all answers are the same" : "not the same"));
        if (wrong != 0) {
            System.exit(1);
        }
    }

    private boolean run() throws Exception {
        while (calls < CALLS && !wrong) {
            int draw = random.nextInt(100);
            if (draw < 1 || told.isEmpty()) {
                text("press", pressText());
            } else if (draw < 9) {
                text("writing", writingText());
            } else if (draw < 13) {
                row();
            } else if (draw < 16) {
                drops();
            } else {
                Method m = asked.get(random.nextInt(asked.size()));
                if (!m.getName().equals("drop") || random.nextInt(3) == 0) {
                    call(m.getName(), arguments(m.getName(), m.getParameterCount()));
                }
            }
        }
        return !wrong;
    }

    private static Method named(Class<?> of, String name) {
        for (Method m : of.getDeclaredMethods()) {
            if (m.getName().equals(name) && java.lang.reflect.Modifier.isPublic(m.getModifiers())) {
                return m;
            }
        }
        throw new IllegalArgumentException(name);
    }

    private void call(String name, Object... args) throws Exception {
        String call = name + Arrays.toString(args);
        told.add(call);
        compare(call, name, args);
        boolean text = name.equals("press") || name.equals("writing");
        boolean any = random.nextInt(20) == 0;
        if (!name.equals("feed") || any) {
            compare("status() behind " + call, "status");
        }
        if (name.equals("odds") || any) {
            compare("top() behind " + call, "top");
            compare("bottom() behind " + call, "bottom");
        }
        if (text || any) {
            compare("fault(0) behind " + call, "fault", 0);
            compare("fault(1) behind " + call, "fault", 1);
        }
    }

    private void compare(String call, String name, Object... args) throws Exception {
        calls++;
        Object got = named(RaisedPress.class, name).invoke(press, args);
        Object want = named(Model.class, name).invoke(model, args);
        if (!got.equals(want) && !wrong) {
            wrong = true;
            System.out.println(String.join("\n", told));
            System.out.println(call + " answered " + got + ", due is " + want);
        }
    }

    // ---- texts

    private void text(String name, String text) throws Exception {
        String cut = text.length() > 900 ? text.substring(0, 900) : text;
        told.add(name + " of " + cut);
        for (int k = 0; k < cut.length(); k += 20) {
            Object[] ints = new Object[5];
            for (int i = 0; i < 5; i++) {
                int v = 0;
                for (int b = 0; b < 4; b++) {
                    int at = k + 4 * i + b;
                    v = v << 8 | (at < cut.length() ? cut.charAt(at) & 255 : 0);
                }
                ints[i] = v;
            }
            call("feed", ints);
        }
        if (random.nextInt(20) == 0) {
            call(name, cut.length() + 1 + random.nextInt(400));
        }
        if (random.nextInt(20) == 0) {
            call(name, -1 - random.nextInt(3));
        }
        call(name, cut.length());
    }

    private String word(int most) {
        StringBuilder s = new StringBuilder();
        int many = 1 + random.nextInt(most);
        for (int k = 0; k < many; k++) {
            s.append((char) ('a' + random.nextInt(letters)));
        }
        return s.toString();
    }

    private int cell() {
        return random.nextInt(10) == 0 ? 1 + random.nextInt(63) : 1 + random.nextInt(cells);
    }

    private String gap() {
        return random.nextInt(30) == 0 ? "\n " : " ";
    }

    private String pressText() {
        rules.clear();
        ruleCells.clear();
        List<String> parts = new ArrayList<>();
        for (String sign : List.of("capital", "number", "hyphen")) {
            if (random.nextInt(6) != 0) {
                parts.add(sign + gap() + cell() + ";");
            }
        }
        if (random.nextInt(4) != 0) {
            parts.add("line " + (4 + random.nextInt(random.nextInt(3) == 0 ? 37 : 6)) + " ;");
        }
        if (random.nextInt(3) != 0) {
            parts.add("page " + (2 + random.nextInt(random.nextInt(3) == 0 ? 29 : 3)) + ";");
        }
        boolean whole = random.nextInt(6) != 0;
        for (int k = 0; whole && k < letters; k++) {
            parts.add(rule(String.valueOf((char) ('a' + k)), ""));
        }
        int more = random.nextInt(random.nextInt(10) == 0 ? 26 : 16);
        for (int k = 0; k < more; k++) {
            String cond = List.of("", "", " begin", " middle", " end", " alone").get(
                random.nextInt(6));
            parts.add(rule(word(random.nextInt(4) == 0 ? 6 : 3), cond));
        }
        if (random.nextInt(12) == 0) {
            java.util.Collections.shuffle(parts, random);
        }
        String text = String.join(random.nextBoolean() ? "" : " ", parts);
        return random.nextInt(4) == 0 && !told.isEmpty() ? spoilt(text) : text;
    }

    private String rule(String word, String cond) {
        if (rules.contains(word + cond) && random.nextInt(20) != 0) {
            return "";
        }
        rules.add(word + cond);
        int many = 1 + random.nextInt(3);
        int[] these = new int[many];
        StringBuilder s = new StringBuilder("rule " + word + gap() + "cells");
        for (int k = 0; k < many; k++) {
            these[k] = cell();
            s.append(gap()).append(these[k]);
        }
        ruleCells.add(these);
        return s.append(cond).append(";").toString();
    }

    private String spoilt(String text) {
        if (text.isEmpty()) {
            return "rule";
        }
        List<String> bits = List.of("", " ", ";", "x", "rule ", "cells ", " 64 ", " 0 ", " 12345 ",
            "#", " 1 2 3 4 ", "begin", " line 4;", " line 3;", "abcdefg", "A", "(char)", " 63 ",
            " capital 7 ;", "00", "\t", String.valueOf((char) 233));
        int at = random.nextInt(text.length());
        int to = Math.min(text.length(), at + random.nextInt(4));
        return text.substring(0, at) + bits.get(random.nextInt(bits.size())) + text.substring(to);
    }

    private String writingText() {
        StringBuilder s = new StringBuilder();
        int most = random.nextInt(4) == 0 ? 300 : random.nextInt(40);
        while (s.length() < most) {
            int draw = random.nextInt(100);
            if (draw < 25) {
                s.append(random.nextInt(8) == 0 ? "\n" : " ");
            } else if (draw < 30) {
                s.append(letters > 3 ? random.nextInt(10) < 7 ? digits() : "90" : "12");
            } else if (draw < 70 || rules.isEmpty()) {
                s.append(word(8));
            } else {
                s.append(rules.get(random.nextInt(rules.size())).split(" ")[0]);
            }
            int last = s.length() - 1;
            if (random.nextInt(12) == 0) {
                s.setCharAt(last, Character.toUpperCase(s.charAt(last)));
            }
            if (random.nextInt(200) == 0) {
                s.append(List.of(".", "-", "\t", "é", "@", "[", "`", "{", "/", ":").get(
                    random.nextInt(10)));
            }
        }
        return s.length() > 300 ? s.substring(0, 300) : s.toString();
    }

    private String digits() {
        StringBuilder s = new StringBuilder();
        for (int k = random.nextInt(4); k >= 0; k--) {
            s.append(1 + random.nextInt(Math.min(9, letters)));
        }
        return s.toString();
    }

    // ---- RULES as they are

    /** Some RULES are DROPPED for a while: what goes by the RULES as they are is asked then. */
    private void drops() throws Exception {
        List<Integer> gone = new ArrayList<>();
        for (int k = random.nextInt(3); k >= 0 && !rules.isEmpty(); k--) {
            gone.add(random.nextInt(rules.size()));
            call("drop", gone.get(gone.size() - 1), true);
        }
        for (String name : List.of("fewest", "cheapest", "plain", "reset")) {
            if (random.nextInt(name.equals("reset") ? 4 : 2) == 0) {
                call(name);
            }
        }
        for (int rule : gone) {
            if (random.nextInt(4) != 0) {
                call("drop", rule, false);
            }
        }
    }

    // ---- TRAYS and numbers

    private void row() throws Exception {
        int tray = random.nextInt(4);
        List<Integer> row = new ArrayList<>();
        int most = 1 + random.nextInt(20);
        while (row.size() < most) {
            if (ruleCells.isEmpty() || random.nextInt(30) == 0) {
                row.add(random.nextInt(70));
            } else {
                for (int c : ruleCells.get(random.nextInt(ruleCells.size()))) {
                    row.add(c);
                }
            }
        }
        call("tray", tray, random.nextInt(4), row.size());
        for (int k = 0; k < row.size(); k++) {
            call("write", tray, k, (long) row.get(k));
        }
        if (random.nextInt(3) == 0) {
            int dots = random.nextInt(4);
            call("tray", dots, random.nextInt(4), row.size());
            for (int k = 0; k < row.size(); k++) {
                long mask = random.nextInt(4) == 0 ? random.nextInt(64) : 0;
                call("write", dots, k, mask);
            }
            call("failed", tray, dots, row.size());
        }
        for (String name : List.of("ways", "first", "letters", "truths")) {
            if (random.nextInt(3) != 0) {
                call(name, name.equals("letters") ? new Object[0] : new Object[] {tray, row.size()});
            }
        }
    }

    private int upTo(int most) {
        return random.nextInt(25) == 0 ? wild()
            : random.nextInt(most + 1) + (random.nextInt(12) == 0 ? 1 : 0)
                - (random.nextInt(12) == 0 ? 1 : 0);
    }

    private int wild() {
        int[] all = {Integer.MIN_VALUE, Integer.MAX_VALUE, -1, 1 << 30, -300, 64, 300, 10000};
        return all[random.nextInt(all.length)];
    }

    private Object[] arguments(String name, int many) {
        switch (name) {
            case "tray":
                return new Object[] {upTo(3), upTo(3), upTo(60)};
            case "write":
                return new Object[] {upTo(3), upTo(30), number()};
            case "pour":
                return new Object[] {upTo(3), upTo(7), upTo(3), upTo(7), upTo(9)};
            case "drop":
                return new Object[] {upTo(Math.max(4, rules.size())), random.nextInt(3) == 0};
            case "onPage":
                return new Object[] {upTo(4), upTo(3), upTo(5)};
            case "failed":
                return new Object[] {upTo(3), upTo(3), upTo(20)};
            case "worn":
                return new Object[] {upTo(9999), upTo(16)};
            case "odds":
                return new Object[] {upTo(9999), upTo(20), upTo(random.nextInt(17))};
            case "read":
                return new Object[] {upTo(3), upTo(40)};
            case "ways":
            case "first":
            case "truths":
                return new Object[] {upTo(3), upTo(20)};
            case "saving":
            case "turned":
            case "near":
            case "clash":
            case "used":
            case "covers":
                return numbers(many, Math.max(3, rules.size()));
            case "rule":
            case "letter":
            case "cellOf":
                return new Object[] {upTo(Math.max(3, rules.size())), upTo(2)};
            case "piece":
                return new Object[] {upTo(20), upTo(1)};
            case "told":
            case "size":
            case "signs":
            case "fault":
                return numbers(many, name.equals("told") ? 6 : name.equals("size") ? 4 : 1);
            default:
                return numbers(many, random.nextInt(3) == 0 ? 64 : 8);
        }
    }

    private Object[] numbers(int many, int most) {
        Object[] all = new Object[many];
        for (int k = 0; k < many; k++) {
            all[k] = upTo(most);
        }
        return all;
    }

    private long number() {
        return random.nextInt(3) == 0 ? random.nextLong() : random.nextInt(300) - 20;
    }
}

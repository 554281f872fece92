/** Promises 9 to 17: the tape, the PRESS, FAULTS of texts, what a PRESS says, DROPPED RULES. */
public final class TextsTest {

    private static final Kit KIT = Kit.start();

    private TextsTest() {
    }

    public static void main(String[] args) {
        feed();
        pressTaken();
        pressPlaces();
        pressFaults();
        twentyFourRules();
        writing();
        writingFaults();
        fault();
        told();
        rule();
        letter();
        cellOf();
        drop();
        KIT.end("TextsTest");
    }

    private static void feed() {
        KIT.promise(9);
        RaisedPress x = new RaisedPress();
        x.cell(0);
        for (int k = 1; k <= 45; k++) {
            KIT.due("feed()", x.feed(0, 0, 0, 0, 0), 20 * k);
        }
        KIT.due("feed() on a full tape", x.feed(0, 0, 0, 0, 0), -1);
        KIT.due("status() as it was", x.status(), 6);
        KIT.refused(x, "press(901)", x.press(901), 1);
        KIT.refused(x, "press(900)", x.press(900), 9);
        KIT.due("feed() on the tape, empty again", x.feed(0, 0, 0, 0, 0), 20);
        KIT.refused(x, "press(21)", x.press(21), 1);
        // Every byte of the five ints in its place, the highest first: "rule ab cells 1 2 3;"
        RaisedPress y = new RaisedPress();
        y.feed(0x72756c65, 0x20616220, 0x63656c6c, 0x73203120, 0x3220333b);
        KIT.told(y, "press(20)", y.press(20), 1);
        KIT.due("letter(0, 1)", y.letter(0, 1), 2);
        KIT.due("cellOf(0, 2)", y.cellOf(0, 2), 3);
        // A byte above 127 is none of any text's.
        y.feed(0xE9000000, 0, 0, 0, 0);
        KIT.refused(y, "press(1)", y.press(1), 9);
        KIT.due("fault(0)", y.fault(0), 1);
    }

    private static void taken(String text, int rules) {
        RaisedPress x = new RaisedPress();
        KIT.told(x, "press() of " + text, Kit.press(x, text), rules);
        KIT.due("fault(0) of " + text, x.fault(0), 0);
        KIT.due("fault(1) of " + text, x.fault(1), -1);
    }

    private static void pressTaken() {
        KIT.promise(10);
        taken("", 0);
        taken(" \n ", 0);
        taken("rule a cells 1;", 1);
        taken("rule\na\ncells\n1\n;\n", 1);
        taken("rule a cells 1begin;rule a cells 0063 2 3;", 2);
        taken("rule abcdef cells 1;", 1);
        taken("rule cells cells 1;rule rule cells 1;rule begin cells 1 begin;", 3);
        taken("rule a cells 1;rule a cells 1 begin;rule a cells 1 middle;rule a cells 1 end;"
            + "rule a cells 1 alone;", 5);
        taken("capital 1;number 63;hyphen 1;line 4;page 2;", 0);
        taken("capital 63;number 1;hyphen 63;line 40;page 30;", 0);
        taken("page 2;rule a cells 1;line 4;rule b cells 1;capital 2;", 2);
    }

    private static void pressPlaces() {
        RaisedPress x = Kit.written("capital 7;rule a cells 1;", "Aa");
        x.drop(0, true);
        KIT.refused(x, "press(-1)", x.press(-1), 1);
        KIT.refused(x, "press(1)", x.press(1), 1);
        KIT.refused(x, "press() with a FAULT", Kit.press(x, "rule b cells 1"), 9);
        KIT.told(x, "told(1): the old one stays", x.told(1), 7);
        KIT.told(x, "told(6): the old one stays", x.told(6), 1);
        KIT.told(x, "size(0): what was SET stays", x.size(0), 3);
        // Only the first n bytes count, and the tape is empty then.
        Kit.feed(x, "rule b cells 1;rule ###");
        KIT.told(x, "press(15)", x.press(15), 1);
        KIT.refused(x, "press(1)", x.press(1), 1);
        KIT.refused(x, "told(1) of the new one", x.told(1), 6);
        KIT.told(x, "told(6) of the new one", x.told(6), 0);
        KIT.refused(x, "size(0): nothing is SET", x.size(0), 6);
        Kit.press(x, "capital 1;number 2;hyphen 3;line 4;page 5;rule b cells 1 2 3 end;");
        KIT.told(x, "press() of another", Kit.press(x, "rule b cells 4;"), 1);
        for (int what = 1; what <= 3; what++) {
            KIT.refused(x, "told(sign) of the new one", x.told(what), 6);
        }
        KIT.told(x, "told(4) of the new one", x.told(4), 32);
        KIT.told(x, "told(5) of the new one", x.told(5), 25);
        KIT.told(x, "rule(0, 1) of the new one", x.rule(0, 1), 1);
        KIT.told(x, "rule(0, 2) of the new one", x.rule(0, 2), 0);
        Kit.feed(x, "rule b");
        KIT.refused(x, "press(-1)", x.press(-1), 1);
        KIT.refused(x, "press(21)", x.press(21), 1);
        KIT.due("feed() behind what stayed on the tape", x.feed(0, 0, 0, 0, 0), 40);
    }

    private static void faulty(String text, int kind, int place) {
        RaisedPress x = new RaisedPress();
        KIT.refused(x, "press() of " + text, Kit.press(x, text), 9);
        KIT.due("fault(0) of " + text, x.fault(0), kind);
        KIT.due("fault(1) of " + text, x.fault(1), place);
    }

    private static void pressFaults() {
        faulty("#", 1, 0);
        faulty("rule A cells 1;", 1, 5);
        faulty("rule\ta cells 1;", 1, 4);
        faulty("rule a cells 12345;", 1, 13);
        faulty("12345", 1, 0);
        faulty("rule 123456789 cells 1;", 1, 5);
        faulty("1234", 2, 0);
        faulty(";", 2, 0);
        faulty("rules a cells 1;", 2, 0);
        faulty("rul a cells 1;", 2, 0);
        faulty("xule a cells 1;", 2, 0);
        faulty("rule a xells 1;", 2, 7);
        faulty("rule a cells 1 xnd;", 2, 15);
        faulty("xage 2;", 2, 0);
        faulty("rule abcdefg cells 1;", 2, 5);
        faulty("rule 1 cells 1;", 2, 5);
        faulty("rule ; cells 1;", 2, 5);
        faulty("rule a cell 1;", 2, 7);
        faulty("rule a 1;", 2, 7);
        faulty("rule a cells;", 2, 12);
        faulty("rule a cells begin;", 2, 13);
        faulty("rule a cells 1 start;", 2, 15);
        faulty("rule a cells 1 begin end;", 2, 21);
        faulty("rule a cells 1 begin 2;", 2, 21);
        faulty("rule a cells 1;;", 2, 15);
        faulty("rule a cells 1", 2, 14);
        faulty("rule a cells 1  \n", 2, 17);
        faulty("rule", 2, 4);
        faulty("rule a", 2, 6);
        faulty("rule a cells", 2, 12);
        faulty("rule a cells 1 begin", 2, 20);
        faulty("capital", 2, 7);
        faulty("capital;", 2, 7);
        faulty("capital 1", 2, 9);
        faulty("capital 1 2;", 2, 10);
        faulty("capital x;", 2, 8);
        faulty("rule a cells 1;rule a cells 2;", 3, 29);
        faulty("rule ab cells 1 end;rule b cells 1;rule ab cells 1 end ;", 3, 55);
        faulty("rule a cells 0;", 4, 13);
        faulty("rule a cells 64;", 4, 13);
        faulty("rule a cells 1 2 64;", 4, 17);
        faulty("capital 0;", 4, 8);
        faulty("capital 64;", 4, 8);
        faulty("number 0;", 4, 7);
        faulty("number 64;", 4, 7);
        faulty("hyphen 0;", 4, 7);
        faulty("hyphen 64;", 4, 7);
        faulty("line 3;", 4, 5);
        faulty("line 41;", 4, 5);
        faulty("page 1;", 4, 5);
        faulty("page 31;", 4, 5);
        faulty("capital 1;capital 2;", 5, 10);
        faulty("number 1;rule a cells 1;number", 5, 24);
        faulty("hyphen 1;hyphen 1;", 5, 9);
        faulty("line 4;line 4;", 5, 7);
        faulty("page 2;page 2;", 5, 7);
        faulty("capital 1;page 2;number 3;capital 1;", 5, 26);
        faulty("rule a cells 1 2 3 4;", 5, 19);
        // Of one TOKEN the least kind: a fourth CELL that can't be.
        faulty("rule a cells 1 2 3 64;", 4, 19);
        faulty("rule a cells 1 2 3 12345;", 1, 19);
        // The first along the text.
        faulty("rule a cells 64 #", 4, 13);
        faulty("line 3 4 #", 4, 5);
    }

    private static String rules(int many) {
        StringBuilder s = new StringBuilder();
        for (int k = 0; k < many; k++) {
            s.append("rule ").append((char) ('a' + k)).append(" cells 1;");
        }
        return s.toString();
    }

    private static void twentyFourRules() {
        taken(rules(24), 24);
        taken(rules(24) + "page 3;", 24);
        faulty(rules(25), 6, 360);
        faulty(rules(24) + "rule", 6, 360);
        faulty(rules(24) + "rules", 2, 360);
        RaisedPress y = Kit.pressed(rules(23) + "rule zzzzzz cells 61 62 63 alone;");
        KIT.told(y, "letter(23, 5)", y.letter(23, 5), 26);
        KIT.told(y, "cellOf(23, 2)", y.cellOf(23, 2), 63);
        KIT.told(y, "rule(23, 2)", y.rule(23, 2), 4);
        y.drop(23, true);
        KIT.told(y, "told(6)", y.told(6), 1 << 23);
        RaisedPress x = Kit.pressed(rules(24));
        KIT.told(x, "letter(23, 0)", x.letter(23, 0), 24);
        // A text of 900 bytes.
        StringBuilder s = new StringBuilder(rules(24));
        while (s.length() < 900) {
            s.append(' ');
        }
        taken(s.toString(), 24);
    }

    private static final String TABLE = "capital 32; number 60; rule a cells 16 alone;"
        + "rule a cells 1; rule b cells 3; rule c cells 9; rule d cells 25 1;"
        + "rule ab cells 5 begin; rule bc cells 10 end; rule cab cells 12 13;"
        + "rule abc cells 7 2 1 middle; rule j cells 26; rule i cells 10 11 12;";

    private static void isSet(String text, String cells) {
        RaisedPress x = Kit.pressed(TABLE);
        int many = cells.isEmpty() ? 0 : cells.split(" ").length;
        KIT.told(x, "writing() of " + text, Kit.writing(x, text), many);
        KIT.due("fault(0) of " + text, x.fault(0), 0);
        KIT.same("CELLS of " + text, Kit.cells(x), cells);
    }

    private static void writing() {
        KIT.promise(11);
        isSet("", "");
        isSet(" \n", "");
        isSet("a", "16");
        isSet("aa", "1 1");
        isSet("ab", "1 3");
        isSet("abc", "5 9");
        isSet("abcd", "5 9 25 1");
        isSet("dabcd", "25 1 7 2 1 25 1");
        isSet("dabc", "25 1 1 10");
        isSet("bc", "3 9");
        isSet("cab", "12 13");
        isSet("Cab", "32 12 13");
        isSet("cAb", "9 32 1 3");
        isSet("caB", "9 1 32 3");
        isSet("A", "32 16");
        isSet("AB", "32 1 32 3");
        isSet("12", "60 1 3");
        isSet("109", "60 1 26 10 11 12");
        isSet("1 2", "60 1 0 60 3");
        isSet("a1b2", "16 60 1 3 60 3");
        isSet("1a", "60 1 16");
        isSet("  a \n b\n", "16 0 3");
        isSet("ab abc", "1 3 0 5 9");
        // One WRITING behind another, on one object: nothing of the one ahead counts.
        RaisedPress y = Kit.pressed(TABLE);
        for (String text : new String[] {"abcdabcd", "abcabcabcabc", "a ab", "abc a"}) {
            Kit.writing(y, text);
            KIT.same("CELLS of " + text, Kit.cells(y), Kit.cells(Kit.written(TABLE, text)));
        }
        KIT.same("CELLS of the last", Kit.cells(y), "5 9 0 16");
        RaisedPress x = Kit.pressed(TABLE);
        KIT.refused(x, "writing(-1)", x.writing(-1), 1);
        KIT.refused(x, "writing(1)", x.writing(1), 1);
        Kit.feed(x, "abcab");
        KIT.refused(x, "writing(21)", x.writing(21), 1);
        KIT.told(x, "writing(3) of the first bytes", x.writing(3), 2);
        KIT.refused(x, "writing(1) of the tape, empty then", x.writing(1), 1);
        StringBuilder s = new StringBuilder();
        while (s.length() < 320) {
            s.append("I");
        }
        Kit.feed(x, s.toString());
        KIT.refused(x, "writing(301)", x.writing(301), 1);
        KIT.told(x, "writing(300)", x.writing(300), 1200);
        KIT.told(x, "cell(1199)", x.cell(1199), 12);
        KIT.told(x, "cell(1196)", x.cell(1196), 32);
    }

    private static void notSet(String press, String text, int kind, int place) {
        RaisedPress x = Kit.written(press, "aa");
        KIT.refused(x, "writing() of " + text, Kit.writing(x, text), 9);
        KIT.due("fault(0) of " + text, x.fault(0), kind);
        KIT.due("fault(1) of " + text, x.fault(1), place);
        KIT.told(x, "size(0): what was SET stays", x.size(0), 2);
        KIT.told(x, "reset(): the WRITING ahead stays", x.reset(), 2);
        KIT.refused(x, "writing(1): the tape is empty", x.writing(1), 1);
    }

    private static void writingFaults() {
        notSet(TABLE, "a-b", 1, 1);
        notSet(TABLE, "\t", 1, 0);
        notSet(TABLE, "aa@", 1, 2);
        notSet(TABLE, "a [", 1, 2);
        notSet(TABLE, "`", 1, 0);
        notSet(TABLE, "{", 1, 0);
        notSet(TABLE, "/", 1, 0);
        notSet(TABLE, ":", 1, 0);
        notSet(TABLE, "\u0000", 1, 0);
        notSet(TABLE, "axa", 3, 1);
        notSet(TABLE, "aXa-", 3, 1);
        notSet(TABLE, "12345", 4, 4);
        notSet(TABLE, "a 6", 4, 2);
        notSet("rule a cells 1;", "a1", 4, 1);
        notSet("number 60;rule a cells 1;", "12", 4, 1);
        // A RULE with a COND does not stand for a digit.
        notSet("number 60;rule a cells 1;rule b cells 3 alone;", "2", 4, 0);
        notSet("rule a cells 1;rule b cells 3;", "abB", 5, 2);
        notSet("rule a cells 1;rule b cells 3;", "aXB", 3, 1);
        // None of its RULES ahead of no CAPITAL.
        notSet("rule a cells 1;", "B", 3, 0);
        notSet("rule a cells 1;rule bc cells 3;", "BC", 3, 0);
    }

    private static void fault() {
        KIT.promise(12);
        RaisedPress x = new RaisedPress();
        KIT.due("fault(0) ahead of any", x.fault(0), -1);
        KIT.due("fault(1) ahead of any", x.fault(1), -1);
        Kit.press(x, "rule a cells 1;#");
        KIT.due("fault(0)", x.fault(0), 1);
        KIT.due("fault(1)", x.fault(1), 15);
        KIT.due("fault(2)", x.fault(2), -1);
        KIT.due("fault(-1)", x.fault(-1), -1);
        x.press(1);
        x.writing(-1);
        KIT.due("fault(0) behind calls with STATUS 1", x.fault(0), 1);
        KIT.due("fault(1) behind calls with STATUS 1", x.fault(1), 15);
        Kit.press(x, "rule a cells 1;");
        KIT.due("fault(0)", x.fault(0), 0);
        KIT.due("fault(1)", x.fault(1), -1);
        Kit.writing(x, "ab");
        KIT.due("fault(0)", x.fault(0), 3);
        KIT.due("fault(1)", x.fault(1), 1);
        x.reset();
        KIT.due("fault(0) behind reset()", x.fault(0), 3);
        KIT.due("status() with none of fault()", x.status(), 6);
        Kit.writing(x, "aa");
        KIT.due("fault(0)", x.fault(0), 0);
        KIT.due("fault(1)", x.fault(1), -1);
    }

    private static void told() {
        KIT.promise(13);
        RaisedPress x = Kit.pressed("capital 1;number 2;hyphen 3;line 4;page 5;rule a cells 1;"
            + "rule b cells 1;rule c cells 1;");
        KIT.told(x, "told(0)", x.told(0), 3);
        for (int what = 1; what <= 5; what++) {
            KIT.told(x, "told(what)", x.told(what), what);
        }
        KIT.told(x, "told(6)", x.told(6), 0);
        x.drop(0, true);
        x.drop(2, true);
        KIT.told(x, "told(6)", x.told(6), 5);
        KIT.told(x, "told(0) with DROPPED RULES", x.told(0), 3);
        KIT.refused(x, "told(7)", x.told(7), 1);
        KIT.refused(x, "told(-1)", x.told(-1), 1);
        RaisedPress y = Kit.pressed("rule a cells 1;");
        KIT.refused(y, "told(1)", y.told(1), 6);
        KIT.refused(y, "told(2)", y.told(2), 6);
        KIT.refused(y, "told(3)", y.told(3), 6);
        KIT.told(y, "told(4)", y.told(4), 32);
        KIT.told(y, "told(5)", y.told(5), 25);
    }

    private static void rule() {
        KIT.promise(14);
        RaisedPress x = Kit.pressed("rule abc cells 1 2;rule a cells 3 begin;rule a cells 3 middle;"
            + "rule a cells 3 end;rule a cells 3 alone;rule abcdef cells 1 2 3;");
        int[] letters = {3, 1, 1, 1, 1, 6};
        int[] cells = {2, 1, 1, 1, 1, 3};
        int[] conds = {0, 1, 2, 3, 4, 0};
        x.drop(2, true);
        for (int r = 0; r < 6; r++) {
            KIT.told(x, "rule(r, 0)", x.rule(r, 0), letters[r]);
            KIT.told(x, "rule(r, 1)", x.rule(r, 1), cells[r]);
            KIT.told(x, "rule(r, 2)", x.rule(r, 2), conds[r]);
        }
        KIT.refused(x, "rule(6, 0)", x.rule(6, 0), 1);
        KIT.refused(x, "rule(-1, 0)", x.rule(-1, 0), 1);
        KIT.refused(x, "rule(0, 3)", x.rule(0, 3), 1);
        KIT.refused(x, "rule(0, -1)", x.rule(0, -1), 1);
    }

    private static void letter() {
        KIT.promise(15);
        RaisedPress x = Kit.pressed("rule a cells 1;rule zyxabc cells 1;");
        int[] letters = {26, 25, 24, 1, 2, 3};
        for (int k = 0; k < 6; k++) {
            KIT.told(x, "letter(1, k)", x.letter(1, k), letters[k]);
        }
        KIT.told(x, "letter(0, 0)", x.letter(0, 0), 1);
        KIT.refused(x, "letter(0, 1)", x.letter(0, 1), 6);
        KIT.refused(x, "letter(1, 6)", x.letter(1, 6), 6);
        KIT.refused(x, "letter(1, -1)", x.letter(1, -1), 6);
        KIT.refused(x, "letter(2, 0)", x.letter(2, 0), 1);
        KIT.refused(x, "letter(-1, 9)", x.letter(-1, 9), 1);
    }

    private static void cellOf() {
        KIT.promise(16);
        RaisedPress x = Kit.pressed("rule a cells 63;rule b cells 1 0002 33;");
        KIT.told(x, "cellOf(0, 0)", x.cellOf(0, 0), 63);
        KIT.told(x, "cellOf(1, 0)", x.cellOf(1, 0), 1);
        KIT.told(x, "cellOf(1, 1)", x.cellOf(1, 1), 2);
        KIT.told(x, "cellOf(1, 2)", x.cellOf(1, 2), 33);
        KIT.refused(x, "cellOf(0, 1)", x.cellOf(0, 1), 6);
        KIT.refused(x, "cellOf(1, 3)", x.cellOf(1, 3), 6);
        KIT.refused(x, "cellOf(1, -1)", x.cellOf(1, -1), 6);
        KIT.refused(x, "cellOf(2, 0)", x.cellOf(2, 0), 1);
        KIT.refused(x, "cellOf(-1, 9)", x.cellOf(-1, 9), 1);
    }

    private static void drop() {
        KIT.promise(17);
        RaisedPress x = Kit.written("rule ab cells 7;rule a cells 1;rule b cells 3;", "ab");
        KIT.told(x, "drop(0, true)", x.drop(0, true));
        KIT.told(x, "told(6)", x.told(6), 1);
        KIT.told(x, "size(0): what is SET stays", x.size(0), 1);
        KIT.told(x, "drop(0, true) again", x.drop(0, true));
        KIT.told(x, "told(6)", x.told(6), 1);
        KIT.told(x, "reset()", x.reset(), 2);
        KIT.told(x, "writing()", Kit.writing(x, "abab"), 4);
        KIT.told(x, "drop(2, false)", x.drop(2, false));
        KIT.told(x, "told(6)", x.told(6), 1);
        KIT.told(x, "drop(2, true)", x.drop(2, true));
        KIT.told(x, "told(6)", x.told(6), 5);
        KIT.told(x, "drop(0, false)", x.drop(0, false));
        KIT.told(x, "told(6)", x.told(6), 4);
        KIT.told(x, "writing() with the RULE there again", Kit.writing(x, "ab"), 1);
        KIT.refused(x, "drop(3, true)", x.drop(3, true), 1);
        KIT.refused(x, "drop(-1, false)", x.drop(-1, false), 1);
        KIT.told(x, "told(6)", x.told(6), 4);
    }
}

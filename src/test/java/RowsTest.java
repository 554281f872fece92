/** Promises 48 to 53: ROWS read back. */
public final class RowsTest {

    private static final Kit KIT = Kit.start();

    /** RULES of one CELL for every COND, and one of two CELLS. */
    private static final String CONDS = "rule a cells 1;rule b cells 1 1;rule c cells 1 begin;"
        + "rule d cells 1 end;rule e cells 1 alone;rule f cells 1 middle;";

    /** A ROW of 1 1 1 2 3 3 has just 33 times 3 times 101 READINGS, all of them TRUE. */
    private static final String MANY = "rule a cells 1;rule b cells 1;rule c cells 1;"
        + "rule d cells 1 1;rule e cells 2;rule f cells 2;rule g cells 2;rule h cells 3;"
        + "rule i cells 3;rule j cells 3;rule k cells 3;rule l cells 3;rule m cells 3;"
        + "rule n cells 3;rule o cells 3;rule p cells 3;rule q cells 3;rule r cells 3 3;";

    private RowsTest() {
    }

    public static void main(String[] args) {
        ways();
        first();
        firstAt();
        letters();
        truths();
        failed();
        KIT.end("RowsTest");
    }

    private static RaisedPress row(String press, int... cells) {
        RaisedPress x = Kit.pressed(press);
        Kit.fill(x, 0, cells);
        return x;
    }

    private static int[] ones(int many) {
        int[] cells = new int[many];
        java.util.Arrays.fill(cells, 1);
        return cells;
    }

    private static void ways() {
        KIT.promise(48);
        RaisedPress x = row(CONDS, ones(20));
        KIT.told(x, "ways(0, 1): a, e", x.ways(0, 1), 2);
        KIT.told(x, "ways(0, 2): b, two by two", x.ways(0, 2), 5);
        KIT.told(x, "ways(0, 3)", x.ways(0, 3), 12);
        x.drop(5, true);
        KIT.told(x, "ways(0, 3) without f", x.ways(0, 3), 8);
        x.drop(1, true);
        KIT.told(x, "ways(0, 20) without b", x.ways(0, 20), 4);
        x.write(0, 1, 2);
        KIT.told(x, "ways(0, 1)", x.ways(0, 1), 2);
        KIT.told(x, "ways(0, 2) with no RULE for it", x.ways(0, 2), 0);
        RaisedPress y = row("rule a cells 1;rule b cells 1;", ones(20));
        KIT.told(y, "ways(0, 19)", y.ways(0, 19), 524288);
        KIT.told(y, "ways(0, 20) at most", y.ways(0, 20), 999999);
        RaisedPress w = row(MANY, 1, 1, 1, 2, 3, 3);
        KIT.told(w, "ways(0, 6)", w.ways(0, 6), 9999);
        RaisedPress z = row("", 1);
        KIT.told(z, "ways(0, 1) without RULES", z.ways(0, 1), 0);
        noRow();
    }

    private static void noRow() {
        RaisedPress x = Kit.pressed(CONDS);
        KIT.refused(x, "ways(0, 1) MISSING", x.ways(0, 1), 2);
        KIT.refused(x, "ways(4, 1)", x.ways(4, 1), 1);
        KIT.refused(x, "ways(-1, 1)", x.ways(-1, 1), 1);
        KIT.refused(x, "ways(0, 0)", x.ways(0, 0), 1);
        KIT.refused(x, "ways(0, 21)", x.ways(0, 21), 1);
        Kit.fill(x, 0, 1, 0, 64);
        KIT.refused(x, "ways(0, 4) of three", x.ways(0, 4), 3);
        KIT.refused(x, "ways(0, 3): 0 and 64", x.ways(0, 3), 5);
        KIT.refused(x, "ways(0, 2): 0", x.ways(0, 2), 5);
        KIT.told(x, "ways(0, 1)", x.ways(0, 1), 2);
        x.write(0, 0, 64);
        KIT.refused(x, "ways(0, 1): 64", x.ways(0, 1), 5);
        x.write(0, 0, -1);
        KIT.refused(x, "ways(0, 1): -1", x.ways(0, 1), 5);
        x.tray(1, 3, 1);
        x.write(1, 0, (1L << 32) + 1);
        KIT.refused(x, "ways(1, 1): 2^32 + 1", x.ways(1, 1), 5);
        Kit.press(x, "rule a cells 63;");
        x.write(0, 0, 63);
        KIT.told(x, "ways(0, 1): 63", x.ways(0, 1), 1);
    }

    private static void first() {
        KIT.promise(49);
        RaisedPress x = row("rule ab cells 1 2;rule a cells 1;rule b cells 2;", 1, 2, 2, 1, 3);
        KIT.told(x, "first(0, 2)", x.first(0, 2), 1);
        KIT.told(x, "first(0, 4)", x.first(0, 4), 3);
        KIT.refused(x, "first(0, 5)", x.first(0, 5), 6);
        KIT.refused(x, "first(0, 6)", x.first(0, 6), 3);
        KIT.refused(x, "first(1, 1)", x.first(1, 1), 2);
        KIT.refused(x, "first(4, 1)", x.first(4, 1), 1);
        KIT.refused(x, "first(0, 0)", x.first(0, 0), 1);
        KIT.refused(x, "first(0, 21)", x.first(0, 21), 1);
        x.write(0, 4, 0);
        KIT.refused(x, "first(0, 5): 0", x.first(0, 5), 5);
        RaisedPress y = row("rule a cells 1;rule b cells 2;rule ab cells 1 2;", 1, 2);
        KIT.told(y, "first(0, 2) by RULES' numbers", y.first(0, 2), 2);
        RaisedPress w = row("rule a cells 1;rule b cells 1 2;", 1, 2);
        KIT.told(w, "first(0, 2) of what goes on", w.first(0, 2), 1);
        KIT.due("firstAt(0)", w.firstAt(0), 1);
    }

    private static void readings(RaisedPress x, int... rules) {
        for (int k = 0; k < rules.length; k++) {
            KIT.told(x, "firstAt(" + k + ")", x.firstAt(k), rules[k]);
        }
        KIT.refused(x, "firstAt() behind the last", x.firstAt(rules.length), 6);
        KIT.refused(x, "firstAt(-1)", x.firstAt(-1), 6);
    }

    private static void firstAt() {
        KIT.promise(50);
        RaisedPress x = row("rule ab cells 1 2;rule a cells 1;rule b cells 2;", 1, 2, 2, 1, 3);
        KIT.refused(x, "firstAt(0) ahead of first()", x.firstAt(0), 6);
        x.first(0, 4);
        readings(x, 0, 2, 1);
        x.first(0, 5);
        x.first(0, 21);
        x.ways(0, 1);
        x.truths(0, 2);
        readings(x, 0, 2, 1);
        x.first(0, 1);
        readings(x, 1);
        // CONDS of the WORD: begin, middle, end.
        RaisedPress y = row("rule a cells 1 end;rule b cells 1 middle;rule c cells 1 begin;"
            + "rule d cells 1 alone;", 1, 1, 1, 1);
        y.first(0, 4);
        readings(y, 2, 1, 1, 0);
        y.first(0, 2);
        readings(y, 2, 0);
        y.first(0, 1);
        readings(y, 3);
        y.drop(3, true);
        KIT.refused(y, "first(0, 1) without d", y.first(0, 1), 6);
        Kit.press(y, "rule a cells 1;");
        readings(y, 3);
    }

    private static void letters() {
        KIT.promise(51);
        RaisedPress x = row("rule abc cells 1 2;rule a cells 1;rule bbbbbb cells 2;", 1, 2, 2, 1, 3);
        KIT.refused(x, "letters() ahead of first()", x.letters(), 6);
        x.first(0, 5);
        KIT.refused(x, "letters() behind first() with 6", x.letters(), 6);
        x.first(0, 4);
        KIT.told(x, "letters()", x.letters(), 10);
        x.first(0, 5);
        KIT.told(x, "letters() behind first() with 6", x.letters(), 10);
        x.first(0, 1);
        KIT.told(x, "letters()", x.letters(), 1);
        x.first(0, 2);
        Kit.press(x, "rule a cells 1;");
        KIT.told(x, "letters() of the READING as it was", x.letters(), 3);
    }

    private static void trueOnes(String press, int due, int... row) {
        RaisedPress x = row(press, row);
        KIT.told(x, "truths() by " + press, x.truths(0, row.length), due);
    }

    private static void truths() {
        KIT.promise(52);
        String pair = "rule a cells 1;rule b cells 2;rule ab cells 3;";
        trueOnes(pair, 0, 1, 2);
        trueOnes(pair, 1, 3);
        trueOnes(pair, 1, 2, 1);
        trueOnes(pair, 0, 4);
        trueOnes("rule a cells 1;rule aa cells 1 1;", 2, 1, 1);
        trueOnes("rule a cells 1;rule aa cells 1 1;", 3, 1, 1, 1);
        trueOnes("rule ab cells 3 begin;rule a cells 1;rule b cells 2;", 1, 3, 1);
        trueOnes("rule ab cells 3 begin;rule a cells 1;rule b cells 2;", 1, 1, 2);
        trueOnes("rule ab cells 3 begin;rule a cells 1;rule b cells 2;", 0, 1, 2, 1);
        String six = "rule abcdef cells 9;rule a cells 1;rule b cells 2;rule c cells 3;"
            + "rule d cells 4;rule e cells 5;rule f cells 6;";
        trueOnes(six, 0, 1, 2, 3, 4, 5, 6);
        trueOnes(six, 1, 1, 2, 3, 4, 5, 1);
        trueOnes(six, 0, 1, 1, 2, 3, 4, 5, 6);
        trueOnes(six, 1, 9, 1, 2, 3, 4, 5, 9, 5, 6);
        // The letters of two RULES make another one's, with as many CELLS or more.
        trueOnes("rule ab cells 1;rule cd cells 2;rule bc cells 3;rule abc cells 1 2;"
            + "rule d cells 4;", 1, 1, 2);
        trueOnes("rule ab cells 1;rule cd cells 2;rule abc cells 1;rule d cells 2;", 4, 1, 2);
        // The WORD can't be SET; it is SET in other CELLS, as many, or in more.
        trueOnes("rule a cells 1;rule bc cells 2;rule ab cells 3;", 0, 1, 2);
        trueOnes("rule a cells 1;rule b cells 2;rule ab cells 3 4;", 0, 1, 2);
        trueOnes("rule a cells 1;rule b cells 2;rule ab cells 3 2;", 0, 1, 2);
        trueOnes("rule a cells 1;rule b cells 2;rule ab cells 1 3;", 0, 1, 2);
        trueOnes("rule a cells 1;rule b cells 2;rule ab cells 1 2 3;", 0, 1, 2);
        // What one READING's letters are SET by says nothing of another one's.
        trueOnes("rule a cells 1;rule bbbbbb cells 2;rule b cells 2;rule ab cells 3;", 0, 1, 2);
        trueOnes("rule a cells 1;rule bbbbbb cells 2;rule c cells 2;rule ab cells 3;", 1, 1, 2);
        int[] twenty = ones(20);
        trueOnes("rule a cells 1;", 1, twenty);
        trueOnes("rule zzzzzz cells 1;", 1, twenty);
        twenty[19] = 2;
        trueOnes("rule a cells 1;rule b cells 2;rule ab cells 1 2 3;", 0, twenty);
        trueOnes("rule a cells 1;rule b cells 2;rule ab cells 1 2;", 2, twenty);
        RaisedPress x = row(pair, 3);
        x.drop(2, true);
        KIT.told(x, "truths(0, 1) without ab", x.truths(0, 1), 0);
        Kit.fill(x, 0, 1, 2);
        KIT.told(x, "truths(0, 2) without ab", x.truths(0, 2), 1);
        RaisedPress w = row(MANY, 1, 1, 1, 2, 3, 3);
        KIT.told(w, "truths(0, 6) of 9,999 WAYS", w.truths(0, 6), 9999);
        RaisedPress v = row("rule a cells 1;rule b cells 1;rule c cells 1;rule d cells 1;"
            + "rule e cells 1;rule f cells 1;rule g cells 1;rule h cells 1;rule i cells 1;"
            + "rule j cells 1;", ones(20));
        KIT.told(v, "truths(0, 3)", v.truths(0, 3), 1000);
        KIT.refused(v, "truths(0, 4) of 10,000 WAYS", v.truths(0, 4), 7);
        KIT.refused(v, "truths(0, 20)", v.truths(0, 20), 7);
        KIT.refused(v, "truths(0, 21)", v.truths(0, 21), 1);
        KIT.refused(v, "truths(0, 0)", v.truths(0, 0), 1);
        KIT.refused(v, "truths(-1, 1)", v.truths(-1, 1), 1);
        KIT.refused(v, "truths(1, 1)", v.truths(1, 1), 2);
        v.tray(1, 0, 1);
        KIT.refused(v, "truths(1, 2)", v.truths(1, 2), 3);
        KIT.refused(v, "truths(1, 1)", v.truths(1, 1), 5);
    }

    private static void failed() {
        KIT.promise(53);
        RaisedPress x = row("rule a cells 1;rule b cells 3;rule c cells 2;rule d cells 1 33;", 1, 1);
        Kit.fill(x, 1, 0, 0);
        KIT.told(x, "failed(0, 1, 1), no dots", x.failed(0, 1, 1), 1);
        x.write(1, 0, 2);
        KIT.told(x, "failed(0, 1, 1), dot 2", x.failed(0, 1, 1), 2);
        KIT.told(x, "failed(0, 1, 2), dot 2", x.failed(0, 1, 2), 2);
        x.write(1, 0, 3);
        KIT.told(x, "failed(0, 1, 1), dots 1 and 2", x.failed(0, 1, 1), 3);
        x.write(1, 0, 63);
        x.write(1, 1, 32);
        KIT.told(x, "failed(0, 1, 2)", x.failed(0, 1, 2), 4);
        KIT.told(x, "ways(0, 2) with no dots FAILED again", x.ways(0, 2), 1);
        x.drop(3, true);
        KIT.told(x, "failed(0, 1, 2) without d", x.failed(0, 1, 2), 3);
        RaisedPress y = row("rule a cells 1;rule b cells 3;", ones(20));
        y.tray(2, 1, 20);
        for (int k = 0; k < 20; k++) {
            y.write(2, k, 63);
        }
        KIT.told(y, "failed(0, 2, 20) at most", y.failed(0, 2, 20), 999999);
        KIT.refused(x, "failed(0, 1, 0)", x.failed(0, 1, 0), 1);
        KIT.refused(x, "failed(0, 1, 21)", x.failed(0, 1, 21), 1);
        KIT.refused(x, "failed(4, 1, 1)", x.failed(4, 1, 1), 1);
        KIT.refused(x, "failed(0, -1, 1)", x.failed(0, -1, 1), 1);
        KIT.refused(x, "failed(0, 2, 9)", x.failed(0, 2, 9), 2);
        KIT.refused(x, "failed(2, 0, 9)", x.failed(2, 0, 9), 2);
        Kit.fill(x, 2, 64, 0, -1);
        KIT.refused(x, "failed(0, 2, 3)", x.failed(0, 2, 3), 3);
        KIT.refused(x, "failed(2, 0, 3)", x.failed(2, 0, 3), 3);
        KIT.refused(x, "failed(0, 2, 1): 64", x.failed(0, 2, 1), 5);
        KIT.refused(x, "failed(2, 1, 1): 64", x.failed(2, 1, 1), 5);
        x.write(2, 0, -1);
        KIT.refused(x, "failed(0, 2, 1): -1", x.failed(0, 2, 1), 5);
        x.write(2, 0, 0);
        KIT.told(x, "failed(0, 2, 2): 0", x.failed(0, 2, 2), 1);
        KIT.refused(x, "failed(2, 1, 1): 0", x.failed(2, 1, 1), 5);
    }
}

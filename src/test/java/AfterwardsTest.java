/**
 * "A PRESS that is taken is there in place of that ahead", and so is what is SET: what follows from
 * a PRESS and a WRITING is the same on an object that had longer ones ahead as on a new one.
 */
public final class AfterwardsTest {

    private static final Kit KIT = Kit.start();

    private static final String[] PRESSES = {"", "rule a cells 1;",
        "rule a cells 1;rule b cells 3;", "capital 63;rule a cells 1;",
        "number 63;line 5;page 3;rule a cells 1 2;rule b cells 2 1;rule ab cells 7 end;",
        "capital 32;number 60;hyphen 36;line 4;page 2;rule a cells 1;rule b cells 3;"
            + "rule c cells 9 1;rule ab cells 5;rule abc cells 7 7 begin;"};
    private static final String[] TEXTS = {"", "a", "aa", "ab ab", "aaaaaaaaaaaaaa b", "Ab 12 aB",
        "abc abcab cab", "a a a a a a a a", "cccccc"};

    private AfterwardsTest() {
    }

    public static void main(String[] args) {
        for (String press : PRESSES) {
            for (String text : TEXTS) {
                behindLonger(press, text);
            }
        }
        rows();
        fullest();
        KIT.end("AfterwardsTest");
    }

    /** 24 RULES of six LETTERS and three CELLS, all signs, some DROPPED; 1,200 CELLS, 400 LINES. */
    private static void fill(RaisedPress x) {
        StringBuilder s = new StringBuilder("capital 1;number 2;hyphen 63;line 4;page 2;"
            + "rule a cells 63 63 63;rule b cells 63 63 62;");
        for (int k = 2; k < 24; k++) {
            s.append("rule abaca").append((char) ('a' + k)).append(" cells 63 63 ").append(k);
            s.append(";");
        }
        Kit.press(x, s.toString());
        for (int k = 0; k < 2; k++) {
            Kit.writing(x, "A".repeat(300));
            Kit.writing(x, "a ".repeat(150));
            Kit.writing(x, "1 ".repeat(100) + "aB");
            x.fewest();
            x.saving(1);
            x.frequent();
            x.leastRagged();
            x.worn(5, 8);
            x.odds(5, 5, 8);
            x.clear();
            Kit.writing(x, "B".repeat(300));
        }
        for (int r = 0; r < 24; r += 5) {
            x.drop(r, true);
        }
        x.cheapest();
    }

    private static void behindLonger(String press, String text) {
        String due = Story.ofSet(() -> Kit.written(press, text));
        KIT.promise(11);
        KIT.same("what is told of " + text + " by " + press + " behind longer ones",
            Story.ofSet(() -> behindOthers(press, text)), due);
        KIT.promise(67);
        KIT.same("what is told of " + text + " by " + press + " behind back()",
            Story.ofSet(() -> behindBack(press, text)), due);
        KIT.promise(10);
        KIT.same("what is told of " + press + ", nothing SET", Story.ofSet(() -> {
            RaisedPress x = behindOthers("", "");
            Kit.press(x, press);
            return x;
        }), Story.ofSet(() -> Kit.pressed(press)));
    }

    private static RaisedPress behindOthers(String press, String text) {
        RaisedPress x = new RaisedPress();
        fill(x);
        Kit.press(x, press);
        Kit.writing(x, text);
        return x;
    }

    private static RaisedPress behindBack(String press, String text) {
        RaisedPress x = Kit.written(press, text);
        x.mark();
        fill(x);
        x.back();
        return x;
    }

    /** ROWS behind longer ones, by RULES of which there were more ahead. */
    private static void rows() {
        String[] rules = {"rule a cells 1;", "rule a cells 1;rule b cells 1 1;",
            "rule abc cells 1 end;rule b cells 1;rule c cells 1 1 begin;",
            "rule aaaaaa cells 1;rule ab cells 1;rule a cells 1;rule b cells 1 1;"};
        for (String press : rules) {
            for (int many = 1; many <= 4; many++) {
                RaisedPress x = new RaisedPress();
                fill(x);
                Kit.fill(x, 0, 63, 63, 63, 63, 63, 62, 63, 63, 2, 63, 63, 63, 63, 63, 63, 63, 63, 62);
                Story.ofRow(x, 0, 18);
                Kit.press(x, press);
                RaisedPress y = Kit.pressed(press);
                Kit.fill(x, 1, 1, 1, 1, 1);
                Kit.fill(y, 1, 1, 1, 1, 1);
                KIT.promise(48);
                KIT.same("READINGS of " + many + " by " + press, Story.ofRow(x, 1, many),
                    Story.ofRow(y, 1, many));
            }
        }
    }

    /** The most bytes, CELLS, PIECES, LINES, RULES: every question is answered, and a second time so. */
    private static void fullest() {
        StringBuilder s = new StringBuilder("capital 1;number 2;hyphen 63;line 4;page 2;"
            + "rule a cells 7 8 9;rule abcdef cells 7;");
        for (int k = 2; k < 24; k++) {
            s.append("rule ").append((char) ('b' + k)).append(" cells 7 8 9;");
        }
        String[] texts = {"A".repeat(300), "A ".repeat(150), " a".repeat(150), "a1".repeat(150),
            "1 ".repeat(150), "1".repeat(300), "abcdef".repeat(50), "Aa a1 ".repeat(50)};
        int[] cells = {1200, 749, 599, 1050, 749, 901, 50, 799};
        int[] covers = {300, 150, 150, 150, 0, 0, 50, 150};
        for (int k = 0; k < texts.length; k++) {
            RaisedPress x = Kit.written(s.toString(), texts[k]);
            KIT.promise(19);
            KIT.told(x, "size(0) of " + texts[k], x.size(0), cells[k]);
            KIT.promise(43);
            KIT.told(x, "covers(0) of " + texts[k], x.covers(0), covers[k]);
            String text = texts[k];
            String told = Story.ofSet(() -> Kit.written(s.toString(), text));
            KIT.promise(18);
            KIT.told(x, "reset() of " + texts[k], x.reset(), cells[k]);
            KIT.same("what is told of " + texts[k] + " behind reset()", Story.ofSet(() -> {
                RaisedPress y = Kit.written(s.toString(), text);
                y.reset();
                return y;
            }), told);
            KIT.promise(67);
            KIT.same("what is told of " + texts[k] + " behind back()",
                Story.ofSet(() -> behindBack(s.toString(), text)), told);
        }
    }
}

/** Promises 54 to 62: what the table of RULES is like. */
public final class TableTest {

    private static final Kit KIT = Kit.start();

    private TableTest() {
    }

    public static void main(String[] args) {
        mirror();
        turned();
        twins();
        near();
        clash();
        clashes();
        clearAndTwin();
        longTwin();
        lacks();
        KIT.end("TableTest");
    }

    private static void mirror() {
        KIT.promise(54);
        RaisedPress x = new RaisedPress();
        int[] cells = {1, 2, 4, 8, 16, 32, 63, 9, 7, 11, 61};
        int[] mirrors = {8, 16, 32, 1, 2, 4, 63, 9, 56, 25, 47};
        for (int k = 0; k < cells.length; k++) {
            KIT.told(x, "mirror(" + cells[k] + ")", x.mirror(cells[k]), mirrors[k]);
        }
        KIT.refused(x, "mirror(0)", x.mirror(0), 1);
        KIT.refused(x, "mirror(64)", x.mirror(64), 1);
        KIT.refused(x, "mirror(-1)", x.mirror(-1), 1);
    }

    private static void turned() {
        KIT.promise(55);
        RaisedPress x = Kit.pressed("rule a cells 1;rule b cells 8;rule c cells 9;rule d cells 1 2;"
            + "rule e cells 8 16;rule f cells 16 8;rule g cells 8;rule h cells 8 16 1;");
        int[] turned = {1, 0, 2, 4, 3, -1, 0, -1};
        for (int r = 0; r < 8; r++) {
            if (turned[r] == -1) {
                KIT.refused(x, "turned(" + r + ")", x.turned(r), 6);
            } else {
                KIT.told(x, "turned(" + r + ")", x.turned(r), turned[r]);
            }
        }
        x.drop(1, true);
        KIT.told(x, "turned(0), a DROPPED one", x.turned(0), 1);
        KIT.told(x, "turned(1) of a DROPPED one", x.turned(1), 0);
        KIT.refused(x, "turned(8)", x.turned(8), 1);
        KIT.refused(x, "turned(-1)", x.turned(-1), 1);
    }

    private static void twins() {
        KIT.promise(56);
        RaisedPress x = Kit.pressed("rule a cells 1;rule b cells 1;rule c cells 1 2;"
            + "rule a cells 1 end;rule d cells 1 2;rule e cells 2 1;rule f cells 1 2 3;");
        KIT.told(x, "twins()", x.twins(), 4);
        x.drop(1, true);
        KIT.told(x, "twins() without b", x.twins(), 2);
        x.drop(0, true);
        x.drop(4, true);
        KIT.told(x, "twins() without a, b, d", x.twins(), 0);
        RaisedPress y = new RaisedPress();
        KIT.told(y, "twins() of no RULES", y.twins(), 0);
    }

    private static void near() {
        KIT.promise(57);
        RaisedPress x = Kit.pressed("rule a cells 1;rule b cells 2;rule c cells 1 3;"
            + "rule d cells 2 1;rule e cells 63 1 1;rule f cells 9 1 3;");
        KIT.told(x, "near(0, 1)", x.near(0, 1), 2);
        KIT.told(x, "near(1, 0)", x.near(1, 0), 2);
        KIT.told(x, "near(0, 0)", x.near(0, 0), 0);
        KIT.told(x, "near(2, 3)", x.near(2, 3), 3);
        KIT.told(x, "near(4, 5)", x.near(4, 5), 5);
        KIT.refused(x, "near(0, 2)", x.near(0, 2), 7);
        KIT.refused(x, "near(4, 2)", x.near(4, 2), 7);
        KIT.refused(x, "near(0, 6)", x.near(0, 6), 1);
        KIT.refused(x, "near(6, 0)", x.near(6, 0), 1);
        KIT.refused(x, "near(-1, 0)", x.near(-1, 0), 1);
        KIT.refused(x, "near(0, -1)", x.near(0, -1), 1);
        x.drop(0, true);
        KIT.told(x, "near(0, 1) of a DROPPED one", x.near(0, 1), 2);
    }

    private static void clash() {
        KIT.promise(58);
        RaisedPress x = Kit.pressed("rule a cells 1;rule b cells 1 2;rule c cells 1 2 3;"
            + "rule d cells 2;rule e cells 1;rule f cells 1 3;");
        KIT.told(x, "clash(0, 1)", x.clash(0, 1), 1);
        KIT.told(x, "clash(1, 0)", x.clash(1, 0), 0);
        KIT.told(x, "clash(0, 2)", x.clash(0, 2), 1);
        KIT.told(x, "clash(1, 2)", x.clash(1, 2), 1);
        KIT.told(x, "clash(3, 1): its end", x.clash(3, 1), 0);
        KIT.told(x, "clash(1, 5)", x.clash(1, 5), 0);
        KIT.told(x, "clash(0, 4): all", x.clash(0, 4), 1);
        KIT.told(x, "clash(4, 0): all", x.clash(4, 0), 1);
        KIT.told(x, "clash(2, 2): itself", x.clash(2, 2), 1);
        x.drop(0, true);
        KIT.told(x, "clash(0, 1) of a DROPPED one", x.clash(0, 1), 1);
        KIT.refused(x, "clash(0, 6)", x.clash(0, 6), 1);
        KIT.refused(x, "clash(6, 0)", x.clash(6, 0), 1);
        KIT.refused(x, "clash(-1, -1)", x.clash(-1, -1), 1);
    }

    private static void clashes() {
        KIT.promise(59);
        RaisedPress x = Kit.pressed("rule a cells 1;rule b cells 1 2;rule c cells 1 2 3;"
            + "rule d cells 2;rule e cells 1;rule f cells 1 3;");
        // a and e begin b, c, f and one another; b begins c.
        KIT.told(x, "clashes()", x.clashes(), 9);
        x.drop(4, true);
        KIT.told(x, "clashes() without e", x.clashes(), 4);
        x.drop(0, true);
        KIT.told(x, "clashes() without a, e", x.clashes(), 1);
        RaisedPress y = new RaisedPress();
        KIT.told(y, "clashes() of no RULES", y.clashes(), 0);
    }

    private static void isTwin(String press, int twin) {
        RaisedPress x = Kit.pressed(press);
        KIT.promise(60);
        KIT.told(x, "clear() of " + press, x.clear(), twin < 0 ? 1 : 0);
        KIT.promise(61);
        if (twin < 0) {
            KIT.refused(x, "twin() of " + press, x.twin(), 6);
        } else {
            KIT.told(x, "twin() of " + press, x.twin(), twin);
        }
    }

    private static void clearAndTwin() {
        isTwin("", -1);
        isTwin("rule a cells 1;", -1);
        isTwin("rule a cells 1;rule b cells 2;", -1);
        isTwin("rule a cells 1;rule b cells 1 2;", -1);
        isTwin("rule a cells 1 1;rule b cells 1 2;rule c cells 2;", -1);
        isTwin("rule a cells 1;rule b cells 1;", 1);
        isTwin("rule a cells 1;rule a cells 1 end;", 1);
        isTwin("rule a cells 1 2 3;rule b cells 1 2 3;", 3);
        isTwin("rule a cells 1;rule b cells 1 1;", 2);
        isTwin("rule a cells 1;rule b cells 2;rule c cells 1 2;", 2);
        isTwin("rule a cells 1;rule b cells 1 2;rule c cells 2 3;rule d cells 3;", 3);
        isTwin("rule a cells 1;rule b cells 2;rule c cells 3;rule d cells 1 2 3;", 3);
        isTwin("rule a cells 1 1;rule b cells 1 1 1;", 5);
        isTwin("rule a cells 1 2;rule b cells 1 2 1;rule c cells 2;rule d cells 1 1 2;", 4);
        isTwin("rule a cells 1;rule b cells 1 2 3;rule c cells 2 3 4;rule d cells 4 5 6;"
            + "rule e cells 5 6;", 6);
        // Two that are alike, dearer than another way.
        isTwin("rule a cells 9 9 9;rule b cells 9 9 9;rule c cells 1;rule d cells 1 1;", 2);
        isTwin("rule a cells 1 2;rule b cells 1;rule c cells 2;", 2);
        RaisedPress x = Kit.pressed("rule a cells 1;rule b cells 2;rule c cells 1 2;");
        KIT.promise(61);
        KIT.told(x, "twin()", x.twin(), 2);
        x.drop(1, true);
        KIT.promise(60);
        KIT.told(x, "clear() without b", x.clear(), 1);
        KIT.promise(61);
        KIT.refused(x, "twin() without b", x.twin(), 6);
        x.drop(1, false);
        KIT.told(x, "twin() with b again", x.twin(), 2);
    }

    /** RULES 1, 1 2, 2 3 .. 22 23, 23: only the row of all these has two READINGS. */
    private static void longTwin() {
        StringBuilder s = new StringBuilder("rule a cells 1;");
        for (int k = 1; k < 23; k++) {
            s.append("rule ").append((char) ('a' + k)).append(" cells ").append(k).append(' ');
            s.append(k + 1).append(';');
        }
        isTwin(s.append("rule z cells 23;").toString(), 23);
    }

    private static void lacks() {
        KIT.promise(62);
        int all = (1 << 26) - 1;
        RaisedPress x = new RaisedPress();
        KIT.told(x, "lacks()", x.lacks(), all);
        Kit.press(x, "rule a cells 1;rule z cells 2;rule bc cells 3;rule d cells 1 end;"
            + "rule e cells 5 alone;rule e cells 6;");
        KIT.told(x, "lacks()", x.lacks(), all - 1 - 16 - (1 << 25));
        x.drop(1, true);
        KIT.told(x, "lacks() without z", x.lacks(), all - 1 - 16);
        x.drop(5, true);
        KIT.told(x, "lacks() without e", x.lacks(), all - 1);
        x.drop(1, false);
        KIT.told(x, "lacks() with z", x.lacks(), all - 1 - (1 << 25));
    }
}

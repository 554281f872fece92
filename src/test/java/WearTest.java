/** Promises 63 to 65: dots that wear off. Seed 0 draws 6 6 1 5 3 12 14 11 1 1 12 0 14 7. */
public final class WearTest {

    private static final Kit KIT = Kit.start();
    private static final String TABLE = "rule a cells 63;rule b cells 5;";

    private WearTest() {
    }

    public static void main(String[] args) {
        worn();
        wornAt();
        odds();
        KIT.end("WearTest");
    }

    private static void worn() {
        KIT.promise(63);
        RaisedPress x = Kit.written(TABLE, "ab a");
        int[] sixteenths = {0, 1, 6, 7, 15, 16};
        int[] gone = {0, 1, 6, 8, 14, 14};
        for (int k = 0; k < 6; k++) {
            KIT.told(x, "worn(0, " + sixteenths[k] + ")", x.worn(0, sixteenths[k]), gone[k]);
        }
        KIT.told(x, "worn(9999, 12)", x.worn(9999, 12), 9);
        KIT.told(x, "dots(): what is SET stays", x.dots(), 14);
        KIT.refused(x, "worn(10000, 1)", x.worn(10000, 1), 1);
        KIT.refused(x, "worn(-1, 1)", x.worn(-1, 1), 1);
        KIT.refused(x, "worn(0, 17)", x.worn(0, 17), 1);
        KIT.refused(x, "worn(0, -1)", x.worn(0, -1), 1);
        RaisedPress y = Kit.pressed(TABLE);
        KIT.refused(y, "worn(0, 1)", y.worn(0, 1), 6);
        KIT.refused(y, "worn(0, 17)", y.worn(0, 17), 1);
        Kit.writing(y, "");
        KIT.told(y, "worn(0, 16) of nothing", y.worn(0, 16), 0);
    }

    private static void left(RaisedPress x, int... cells) {
        for (int k = 0; k < cells.length; k++) {
            KIT.told(x, "wornAt(" + k + ")", x.wornAt(k), cells[k]);
        }
        KIT.refused(x, "wornAt() behind the last", x.wornAt(cells.length), 6);
        KIT.refused(x, "wornAt(-1)", x.wornAt(-1), 6);
    }

    private static void wornAt() {
        KIT.promise(64);
        RaisedPress x = Kit.written(TABLE, "ab a");
        left(x);
        x.worn(0, 0);
        left(x, 63, 5, 0, 63);
        x.worn(0, 6);
        left(x, 35, 5, 0, 52);
        x.worn(0, 7);
        left(x, 32, 5, 0, 52);
        x.worn(9999, 12);
        left(x, 26, 5, 0, 0);
        x.worn(0, 17);
        x.odds(0, 20, 3);
        left(x, 26, 5, 0, 0);
        Kit.writing(x, "b");
        left(x, 26, 5, 0, 0);
        Kit.press(x, "rule a cells 1;");
        x.worn(0, 1);
        left(x, 26, 5, 0, 0);
        Kit.writing(x, "a");
        x.worn(0, 16);
        left(x, 0);
    }

    private static void fraction(RaisedPress x, int seed, int many, int sixteenths, int top,
        int bottom) {
        KIT.told(x, "odds(" + seed + ", " + many + ", " + sixteenths + ")",
            x.odds(seed, many, sixteenths));
        KIT.due("top()", x.top(), top);
        KIT.due("bottom()", x.bottom(), bottom);
    }

    private static void odds() {
        KIT.promise(65);
        RaisedPress x = Kit.written("rule a cells 1;", "aa");
        fraction(x, 0, 8, 0, 1, 1);
        fraction(x, 0, 8, 1, 7, 8);
        fraction(x, 0, 8, 3, 5, 8);
        fraction(x, 0, 8, 4, 1, 2);
        fraction(x, 0, 8, 8, 1, 4);
        fraction(x, 4, 2, 7, 1, 2);
        fraction(x, 4, 1, 7, 1, 1);
        fraction(x, 0, 8, 12, 0, 1);
        fraction(x, 9980, 20, 0, 1, 1);
        fraction(x, 9999, 1, 16, 0, 1);
        fraction(x, 0, 20, 0, 1, 1);
        fraction(x, 0, 8, 1, 7, 8);
        KIT.refused(x, "odds(9999, 2, 0)", x.odds(9999, 2, 0), 1);
        KIT.refused(x, "odds(9981, 20, 0)", x.odds(9981, 20, 0), 1);
        KIT.refused(x, "odds(10000, 1, 0)", x.odds(10000, 1, 0), 1);
        KIT.refused(x, "odds(-1, 1, 0)", x.odds(-1, 1, 0), 1);
        KIT.refused(x, "odds(0, 0, 0)", x.odds(0, 0, 0), 1);
        KIT.refused(x, "odds(0, 21, 0)", x.odds(0, 21, 0), 1);
        KIT.refused(x, "odds(0, 1, 17)", x.odds(0, 1, 17), 1);
        KIT.refused(x, "odds(0, 1, -1)", x.odds(0, 1, -1), 1);
        int most = Integer.MAX_VALUE;
        KIT.refused(x, "odds(most, 20, 0)", x.odds(most, 20, 0), 1);
        KIT.due("top() after refusals", x.top(), 7);
        KIT.due("bottom() after refusals", x.bottom(), 8);
        // Blanks have no dots; a CELL of many dots holds longer.
        RaisedPress y = Kit.written(TABLE, "a a");
        fraction(y, 0, 1, 12, 1, 1);
        fraction(y, 0, 1, 13, 0, 1);
        fraction(y, 0, 1, 15, 0, 1);
        Kit.writing(y, "");
        fraction(y, 0, 5, 16, 1, 1);
        RaisedPress z = Kit.pressed(TABLE);
        KIT.refused(z, "odds(0, 1, 0)", z.odds(0, 1, 0), 6);
        KIT.refused(z, "odds(0, 0, 0)", z.odds(0, 0, 0), 1);
    }
}

/** Promises 1 to 8: a new object, STATUS, the FRACTION, TRAYS. */
public final class TraysTest {

    private static final Kit KIT = Kit.start();

    private TraysTest() {
    }

    public static void main(String[] args) {
        newObject();
        status();
        fraction();
        tray();
        write();
        read();
        pour();
        KIT.end("TraysTest");
    }

    private static void newObject() {
        KIT.promise(1);
        RaisedPress x = new RaisedPress();
        KIT.due("NONE", RaisedPress.NONE, -1);
        KIT.due("status()", x.status(), 0);
        KIT.due("top()", x.top(), 0);
        KIT.due("bottom()", x.bottom(), 1);
        KIT.due("fault(0)", x.fault(0), -1);
        KIT.due("fault(1)", x.fault(1), -1);
        KIT.told(x, "told(0)", x.told(0), 0);
        KIT.told(x, "told(4)", x.told(4), 32);
        KIT.told(x, "told(5)", x.told(5), 25);
        KIT.told(x, "told(6)", x.told(6), 0);
        for (int what = 1; what <= 3; what++) {
            KIT.refused(x, "told(sign)", x.told(what), 6);
        }
        for (int tray = 0; tray < 4; tray++) {
            KIT.refused(x, "read(tray, 0)", x.read(tray, 0), 2);
        }
        KIT.refused(x, "press(1) of an empty tape", x.press(1), 1);
        KIT.refused(x, "size(0)", x.size(0), 6);
        KIT.refused(x, "reset()", x.reset(), 6);
        KIT.refused(x, "back()", x.back(), 6);
        KIT.refused(x, "firstAt(0)", x.firstAt(0), 6);
        KIT.refused(x, "letters()", x.letters(), 6);
        KIT.refused(x, "wornAt(0)", x.wornAt(0), 6);
    }

    private static void status() {
        KIT.promise(2);
        RaisedPress x = new RaisedPress();
        x.cell(0);
        KIT.due("status()", x.status(), 6);
        KIT.due("status() again", x.status(), 6);
        x.top();
        x.bottom();
        x.feed(0, 0, 0, 0, 0);
        x.fault(0);
        x.fault(7);
        KIT.due("status() behind calls without", x.status(), 6);
        x.mirror(1);
        KIT.due("status()", x.status(), 0);
        x.mirror(64);
        KIT.due("status()", x.status(), 1);
    }

    private static void fraction() {
        RaisedPress x = Kit.written("rule a cells 1;", "aa");
        KIT.promise(3);
        KIT.told(x, "odds(0, 4, 0)", x.odds(0, 4, 0));
        KIT.due("top()", x.top(), 1);
        KIT.told(x, "odds(0, 4, 16)", x.odds(0, 4, 16));
        KIT.due("top()", x.top(), 0);
        KIT.promise(4);
        KIT.due("bottom()", x.bottom(), 1);
        x.mirror(0);
        KIT.due("bottom() after another call", x.bottom(), 1);
        KIT.refused(x, "odds(-1, 1, 1)", x.odds(-1, 1, 1), 1);
        KIT.due("bottom() after odds() that was refused", x.bottom(), 1);
    }

    private static void tray() {
        KIT.promise(5);
        RaisedPress x = new RaisedPress();
        KIT.told(x, "tray(0, 0, 0)", x.tray(0, 0, 0));
        KIT.refused(x, "read(0, 0)", x.read(0, 0), 3);
        KIT.told(x, "tray(3, 3, 60)", x.tray(3, 3, 60));
        KIT.told(x, "read(3, 59)", x.read(3, 59), 0);
        KIT.refused(x, "read(3, 60)", x.read(3, 60), 3);
        x.write(3, 0, 7);
        x.write(3, 59, 8);
        KIT.refused(x, "tray(3, 3, 61)", x.tray(3, 3, 61), 1);
        KIT.refused(x, "tray(3, 3, -1)", x.tray(3, 3, -1), 1);
        KIT.refused(x, "tray(3, 4, 1)", x.tray(3, 4, 1), 1);
        KIT.refused(x, "tray(3, -1, 1)", x.tray(3, -1, 1), 1);
        KIT.refused(x, "tray(4, 0, 1)", x.tray(4, 0, 1), 1);
        KIT.refused(x, "tray(-1, 0, 1)", x.tray(-1, 0, 1), 1);
        KIT.told(x, "read(3, 59) after refusals", x.read(3, 59), 8);
        KIT.told(x, "tray(3, 0, 2)", x.tray(3, 0, 2));
        KIT.told(x, "read(3, 0) of the new row", x.read(3, 0), 0);
        KIT.refused(x, "read(3, 2) of the new row", x.read(3, 2), 3);
        KIT.told(x, "tray(3, 3, 60)", x.tray(3, 3, 60));
        KIT.told(x, "read(3, 59) of a new row", x.read(3, 59), 0);
    }

    private static void write() {
        KIT.promise(6);
        RaisedPress x = new RaisedPress();
        long v = 0x7123456789ABCDEFL;
        long[] cut = {(byte) 0xEF, (short) 0xCDEF, 0x89ABCDEF, v};
        for (int sort = 0; sort < 4; sort++) {
            x.tray(sort, sort, 3);
            KIT.told(x, "write(tray, 1, v)", x.write(sort, 1, v));
            KIT.due("read() of sort " + sort, x.read(sort, 1), cut[sort]);
            KIT.due("read() beside it", x.read(sort, 0) + x.read(sort, 2), 0);
            x.write(sort, 2, 127);
            KIT.due("read() of 127", x.read(sort, 2), 127);
        }
        x.write(0, 0, 128);
        KIT.due("read() of 128 in 8 bits", x.read(0, 0), -128);
        x.write(1, 0, 128);
        KIT.due("read() of 128 in 16 bits", x.read(1, 0), 128);
        x.write(2, 0, 1L << 32);
        KIT.due("read() of 2^32 in 32 bits", x.read(2, 0), 0);
        KIT.refused(x, "write(0, 3, 1)", x.write(0, 3, 1), 3);
        KIT.refused(x, "write(0, -1, 1)", x.write(0, -1, 1), 3);
        KIT.refused(x, "write(4, 0, 1)", x.write(4, 0, 1), 1);
        KIT.refused(x, "write(-1, 0, 1)", x.write(-1, 0, 1), 1);
        RaisedPress y = new RaisedPress();
        KIT.refused(y, "write(0, 0, 1)", y.write(0, 0, 1), 2);
        KIT.refused(y, "write(0, -1, 1)", y.write(0, -1, 1), 2);
    }

    private static void read() {
        KIT.promise(7);
        RaisedPress x = new RaisedPress();
        x.tray(1, 3, 2);
        x.write(1, 0, -1);
        KIT.told(x, "read(1, 0)", x.read(1, 0), -1);
        KIT.refused(x, "read(1, 2)", x.read(1, 2), 3);
        KIT.refused(x, "read(1, -1)", x.read(1, -1), 3);
        KIT.refused(x, "read(1, 2147483647)", x.read(1, Integer.MAX_VALUE), 3);
        KIT.refused(x, "read(0, 0)", x.read(0, 0), 2);
        KIT.refused(x, "read(4, 0)", x.read(4, 0), 1);
        KIT.refused(x, "read(-1, 0)", x.read(-1, 0), 1);
    }

    private static String row(RaisedPress x, int tray) {
        StringBuilder s = new StringBuilder();
        for (int k = 0; k < 5; k++) {
            s.append(k == 0 ? "" : " ").append(x.read(tray, k));
        }
        return s.toString();
    }

    private static void pour() {
        KIT.promise(8);
        RaisedPress x = new RaisedPress();
        Kit.fill(x, 0, 1, 2, 3, 4, 5);
        Kit.fill(x, 1, 9, 9, 9, 9, 9);
        KIT.told(x, "pour(0, 1, 1, 2, 3)", x.pour(0, 1, 1, 2, 3));
        KIT.same("TRAY 1", row(x, 1), "9 9 2 3 4");
        KIT.told(x, "pour(0, 0, 0, 1, 4)", x.pour(0, 0, 0, 1, 4));
        KIT.same("TRAY 0, moved up", row(x, 0), "1 1 2 3 4");
        KIT.told(x, "pour(0, 2, 0, 0, 3)", x.pour(0, 2, 0, 0, 3));
        KIT.same("TRAY 0, moved down", row(x, 0), "2 3 4 3 4");
        KIT.told(x, "pour(0, 5, 1, 5, 0)", x.pour(0, 5, 1, 5, 0));
        KIT.refused(x, "pour(0, 6, 1, 0, 0)", x.pour(0, 6, 1, 0, 0), 3);
        KIT.refused(x, "pour(0, 0, 1, 6, 0)", x.pour(0, 0, 1, 6, 0), 3);
        KIT.refused(x, "pour(0, 3, 1, 0, 3)", x.pour(0, 3, 1, 0, 3), 3);
        KIT.refused(x, "pour(0, 0, 1, 3, 3)", x.pour(0, 0, 1, 3, 3), 3);
        int most = Integer.MAX_VALUE;
        KIT.refused(x, "pour(0, most, 1, most, most)", x.pour(0, most, 1, most, most), 3);
        KIT.same("TRAY 1 after refusals", row(x, 1), "9 9 2 3 4");
        KIT.refused(x, "pour(0, -1, 1, 0, 1)", x.pour(0, -1, 1, 0, 1), 1);
        KIT.refused(x, "pour(0, 0, 1, -1, 1)", x.pour(0, 0, 1, -1, 1), 1);
        KIT.refused(x, "pour(0, 0, 1, 0, -1)", x.pour(0, 0, 1, 0, -1), 1);
        KIT.refused(x, "pour(4, 0, 1, 0, 1)", x.pour(4, 0, 1, 0, 1), 1);
        KIT.refused(x, "pour(0, 0, -1, 0, 1)", x.pour(0, 0, -1, 0, 1), 1);
        KIT.refused(x, "pour(0, -1, 2, 0, 1)", x.pour(0, -1, 2, 0, 1), 1);
        KIT.refused(x, "pour(0, 0, 2, 0, 1)", x.pour(0, 0, 2, 0, 1), 2);
        KIT.refused(x, "pour(2, 9, 0, 0, 1)", x.pour(2, 9, 0, 0, 1), 2);
        x.tray(2, 1, 1);
        KIT.refused(x, "pour(0, 9, 2, 9, 9)", x.pour(0, 9, 2, 9, 9), 8);
        x.tray(3, 2, 1);
        KIT.told(x, "pour(0, 4, 3, 0, 1)", x.pour(0, 4, 3, 0, 1));
        KIT.told(x, "read(3, 0)", x.read(3, 0), 4);
    }
}

/** What the tests share: texts for the tape, and the count of answers that are not as due. */
final class Kit {

    private int wrong = 0;
    private int promise = 0;

    private Kit() {
    }

    static Kit start() {
        return new Kit();
    }

    /** The answers that follow are those of this promise. */
    void promise(int number) {
        promise = number;
    }

    void due(String call, long got, long want) {
        if (got != want) {
            wrong++;
            System.out.println("promise " + promise + ": " + call + " answered " + got
                + ", due is " + want);
        }
    }

    void due(String call, boolean got, boolean want) {
        due(call, got ? 1 : 0, want ? 1 : 0);
    }

    void same(String call, String got, String want) {
        if (!got.equals(want)) {
            wrong++;
            System.out.println("promise " + promise + ": " + call + " answered " + got
                + ", due is " + want);
        }
    }

    /** A call that is due to answer NONE with a STATUS. */
    void refused(RaisedPress x, String call, long got, int status) {
        due(call, got, RaisedPress.NONE);
        due("status() after " + call, x.status(), status);
    }

    void refused(RaisedPress x, String call, boolean got, int status) {
        due(call, got, false);
        due("status() after " + call, x.status(), status);
    }

    /** A call that is due to give STATUS 0. */
    void told(RaisedPress x, String call, long got, long want) {
        due(call, got, want);
        due("status() after " + call, x.status(), 0);
    }

    void told(RaisedPress x, String call, boolean got) {
        due(call, got, true);
        due("status() after " + call, x.status(), 0);
    }

    void end(String name) {
        System.out.println(name + ": " + (wrong == 0 ? "all answers are as due"
            : wrong + " answers are not as due"));
        if (wrong != 0) {
            System.exit(1);
        }
    }

    private static int byteAt(String text, int k) {
        return k < text.length() ? text.charAt(k) & 255 : 0;
    }

    private static int intAt(String text, int k) {
        return byteAt(text, k) << 24 | byteAt(text, k + 1) << 16 | byteAt(text, k + 2) << 8
            | byteAt(text, k + 3);
    }

    /** A text comes on the tape, zeros behind it. */
    static void feed(RaisedPress x, String text) {
        for (int k = 0; k < text.length(); k += 20) {
            x.feed(intAt(text, k), intAt(text, k + 4), intAt(text, k + 8), intAt(text, k + 12),
                intAt(text, k + 16));
        }
    }

    static int press(RaisedPress x, String text) {
        feed(x, text);
        return x.press(text.length());
    }

    static int writing(RaisedPress x, String text) {
        feed(x, text);
        return x.writing(text.length());
    }

    static RaisedPress pressed(String text) {
        RaisedPress x = new RaisedPress();
        press(x, text);
        return x;
    }

    static RaisedPress written(String press, String text) {
        RaisedPress x = pressed(press);
        writing(x, text);
        return x;
    }

    /** The CELLS that are SET, a blank between them. */
    static String cells(RaisedPress x) {
        StringBuilder s = new StringBuilder();
        for (int k = 0; k < x.size(0); k++) {
            s.append(k == 0 ? "" : " ").append(x.cell(k));
        }
        return s.toString();
    }

    /** The CELLS of all LINES, a bar between these. */
    static String lines(RaisedPress x) {
        StringBuilder s = new StringBuilder();
        for (int l = 0; l < x.size(1); l++) {
            s.append(l == 0 ? "" : " |");
            for (int k = 0; k < x.line(l); k++) {
                s.append(l == 0 && k == 0 ? "" : " ").append(x.lineAt(l, k));
            }
        }
        return s.toString();
    }

    /** Numbers come to a TRAY of 32 bits. */
    static void fill(RaisedPress x, int tray, int... numbers) {
        x.tray(tray, 2, numbers.length);
        for (int k = 0; k < numbers.length; k++) {
            x.write(tray, k, numbers[k]);
        }
    }
}

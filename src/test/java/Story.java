/** All that can be told of an object, as one text; it asks more calls than an object is good for. */
final class Story {

    private final StringBuilder told = new StringBuilder();

    private Story() {
    }

    private void tell(long answer) {
        told.append(answer).append(' ');
    }

    private void tell(RaisedPress x, long answer) {
        told.append(answer).append('/').append(x.status()).append(' ');
    }

    /** What is on the tape and under the MARKS is told last: it is gone then. */
    static String of(RaisedPress x, boolean faultToo) {
        Story s = new Story();
        if (faultToo) {
            s.tell(x.fault(0));
            s.tell(x.fault(1));
        }
        s.tell(x.top());
        s.tell(x.bottom());
        s.trays(x);
        s.table(x);
        s.set(x);
        s.kept(x);
        for (int k = 0; k < 4; k++) {
            s.told.append("\nback: ");
            s.tell(x, x.back());
            s.table(x);
            s.set(x);
        }
        s.kept(x);
        s.tape(x);
        return s.told.toString();
    }

    /** What follows from the PRESS and the WRITING alone. */
    static String ofSet(RaisedPress x) {
        Story s = new Story();
        s.table(x);
        s.set(x);
        s.wear(x);
        return s.told.toString();
    }

    /** What the RULES say of a ROW. */
    static String ofRow(RaisedPress x, int tray, int many) {
        Story s = new Story();
        s.tell(x, x.ways(tray, many));
        s.tell(x, x.truths(tray, many));
        s.tell(x, x.failed(tray, tray, many));
        s.tell(x, x.first(tray, many));
        s.tell(x, x.letters());
        for (int k = 0; k <= many; k++) {
            s.tell(x, x.firstAt(k));
        }
        return s.told.toString();
    }

    private void trays(RaisedPress x) {
        told.append("\ntrays: ");
        for (int t = 0; t < 4; t++) {
            for (int k = 0; k < 60; k++) {
                long v = x.read(t, k);
                if (x.status() != 0) {
                    tell(x, -1);
                    break;
                }
                tell(v);
            }
        }
    }

    private void table(RaisedPress x) {
        told.append("\ntable: ");
        for (int what = 0; what <= 6; what++) {
            tell(x, x.told(what));
        }
        for (int r = 0; r < x.told(0); r++) {
            for (int k = 0; k < x.rule(r, 0); k++) {
                tell(x.letter(r, k));
            }
            for (int k = 0; k < x.rule(r, 1); k++) {
                tell(x.cellOf(r, k));
            }
            tell(x.rule(r, 2));
            tell(x.turned(r));
            for (int o = 0; o < x.told(0); o++) {
                tell(x.near(r, o));
                tell(x.clash(r, o));
            }
        }
        tell(x.twins());
        tell(x.clashes());
        tell(x.clear());
        tell(x, x.twin());
        tell(x.lacks());
    }

    private void set(RaisedPress x) {
        told.append("\nset: ");
        for (int what = 0; what <= 4; what++) {
            tell(x, x.size(what));
        }
        for (int k = 0; k < x.size(0); k++) {
            tell(x.cell(k));
            tell(x.by(k));
            tell(x.pieceOf(k));
        }
        for (int l = 0; l < x.size(1); l++) {
            told.append("| ");
            for (int k = 0; k < x.line(l); k++) {
                tell(x.lineAt(l, k));
            }
            tell(x.inLine(l));
            tell(x.wasted(l));
            tell(x.alike(l, 0));
            tell(x.onPage(0, l, x.line(l)));
        }
        for (int k = 0; k <= x.size(3); k++) {
            tell(x, x.piece(k, 0));
            tell(x.piece(k, 1));
        }
        for (int r = 0; r < x.told(0); r++) {
            tell(x.used(r));
            tell(x.covers(r));
            tell(x.saving(r));
        }
        questions(x);
    }

    private void questions(RaisedPress x) {
        tell(x.useless());
        tell(x.hyphens());
        tell(x.dots());
        tell(x, x.plain());
        tell(x, x.fewest());
        tell(x, x.cheapest());
        tell(x, x.saved());
        tell(x, x.longest());
        tell(x, x.frequent());
        tell(x.signs(0));
        tell(x.signs(1));
        tell(x.ragged());
        tell(x, x.leastRagged());
        tell(x, x.commonest());
        for (int k = 0; k <= 63; k += 7) {
            tell(x.often(k));
            tell(x, x.dense(1 + k));
        }
    }

    private void wear(RaisedPress x) {
        told.append("\nwear: ");
        for (int sixteenths = 0; sixteenths <= 16; sixteenths++) {
            tell(x, x.worn(31, sixteenths));
            for (int k = -1; k <= x.size(0); k++) {
                tell(x.wornAt(k));
            }
            tell(x, x.odds(31, 20, sixteenths) ? 0 : -1);
            tell(x.top());
            tell(x.bottom());
        }
    }

    private void kept(RaisedPress x) {
        told.append("\nkept: ");
        tell(x, x.letters());
        for (int k = -1; k < 20; k++) {
            tell(x.firstAt(k));
        }
        for (int k = -1; k < 30; k++) {
            tell(x.wornAt(k));
        }
        tell(x, x.reset());
        set(x);
    }

    private void tape(RaisedPress x) {
        told.append("\ntape: ");
        int more = x.feed(0x20202020, 0x20202020, 0x20202020, 0x20202020, 0x20202020);
        tell(more);
        int many = more < 0 ? 900 : more;
        tell(x, x.press(many));
        tell(x.fault(0));
        tell(x.fault(1));
        table(x);
    }
}

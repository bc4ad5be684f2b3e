/** Promises 1 to 5 and 34: a new object, rows, and the finding of the latest call with one. */
public final class RowTests {
    private static final int NULL = -1000011, PLACE = -1000012, KIND = -1000013, SIZE = -1000014, STORE = -1000015;

    public static void main(String[] args) {
        newObject();
        row();
        set();
        copy();
        copyWithin();
        drop();
        status();
        statusStays();
        Check.end();
    }

    /** By one word, which always stands on FIRST, a row's value of 1 to 87 can be read. */
    private static RefsSettle reading() {
        return Check.with("w4,1,1;t1;");
    }

    private static int value(RefsSettle x, int row, int i) {
        return x.fits(0, row, i, 1, 3);
    }

    private static void newObject() {
        RefsSettle x = new RefsSettle();
        for (int what = 0; what <= 8; what++) {
            Check.due("1: count " + what, x.count(what), 0);
        }
        Check.due("1: status", x.status(), 0);
        Check.due("1: fault", x.fault(), 0);
        Check.due("1: round", x.round(), RefsSettle.STATE);
        Check.due("1: undo", x.undo(), RefsSettle.STATE);
        Check.due("1: kind", x.kind(0), RefsSettle.BAD);
        Check.due("1: trace", x.trace(0), RefsSettle.NONE);
        for (int row = 0; row < 8; row++) {
            Check.due("1: drop", x.drop(row), NULL);
        }
    }

    private static void row() {
        RefsSettle x = reading();
        for (int lane = 0; lane <= 2; lane++) {
            Check.due("2: none", x.row(lane, lane, 0), 0);
            Check.due("2: forty", x.row(7 - lane, lane, 40), 40);
        }
        Check.due("2: rows", x.count(0), 6);
        Check.due("2: row -1", x.row(-1, 0, 1), RefsSettle.BAD);
        Check.due("2: row 8", x.row(8, 0, 1), RefsSettle.BAD);
        Check.due("2: lane -1", x.row(0, -1, 1), RefsSettle.BAD);
        Check.due("2: lane 3", x.row(0, 3, 1), RefsSettle.BAD);
        Check.due("2: 41", x.row(0, 0, 41), RefsSettle.BAD);
        Check.due("2: most", x.row(0, 0, Integer.MAX_VALUE), RefsSettle.BAD);
        Check.due("2: -1", x.row(3, 0, -1), SIZE);
        Check.due("2: least", x.row(3, 0, Integer.MIN_VALUE), SIZE);
        Check.due("2: BAD ahead of SIZE", x.row(8, 0, -1), RefsSettle.BAD);
        Check.due("2: lane ahead of SIZE", x.row(0, 3, -1), RefsSettle.BAD);
        Check.due("2: rows yet", x.count(0), 6);
        x.row(0, 0, 3);
        x.set(0, 1, 5);
        Check.due("2: what was set", value(x, 0, 1), 5);
        Check.due("2: refused", x.row(0, 0, -1), SIZE);
        Check.due("2: refused, all stays", value(x, 0, 1), 5);
        x.row(0, 2, 3);
        Check.due("2: a new row is of 0", value(x, 0, 1), RefsSettle.NONE);
        Check.due("2: of the new lane", x.set(0, 1, 70000), 70000);
        Check.due("2: a smaller one", x.row(0, 2, 1), 1);
        Check.due("2: its end", x.set(0, 1, 5), PLACE);
        Check.due("2: rows at last", x.count(0), 6);
    }

    private static void set() {
        RefsSettle x = reading();
        x.row(0, 0, 3);
        x.row(1, 1, 3);
        x.row(2, 2, 3);
        int[][] bytes = {{127, 127}, {128, -128}, {255, -1}, {256, 0}, {-129, 127}, {261, 5}, {Integer.MIN_VALUE, 0}};
        int[][] shorts = {{32767, 32767}, {32768, -32768}, {65535, -1}, {65541, 5}, {-32769, 32767}, {200, 200}};
        for (int[] pair : bytes) {
            Check.due("3: byte " + pair[0], x.set(0, 2, pair[0]), pair[1]);
        }
        for (int[] pair : shorts) {
            Check.due("3: short " + pair[0], x.set(1, 2, pair[0]), pair[1]);
        }
        Check.due("3: int", x.set(2, 2, Integer.MIN_VALUE), Integer.MIN_VALUE);
        Check.due("3: int", x.set(2, 2, Integer.MAX_VALUE), Integer.MAX_VALUE);
        x.set(0, 1, 261);
        Check.due("3: as it is kept", value(x, 0, 1), 5);
        Check.due("3: the next one stays", value(x, 0, 0), RefsSettle.NONE);
        Check.due("3: row -1", x.set(-1, 0, 0), RefsSettle.BAD);
        Check.due("3: row 8", x.set(8, 0, 0), RefsSettle.BAD);
        Check.due("3: missing, no such place", x.set(3, -1, 0), NULL);
        Check.due("3: place -1", x.set(0, -1, 0), PLACE);
        Check.due("3: place 3", x.set(0, 3, 0), PLACE);
        Check.due("3: place at most", x.set(0, Integer.MAX_VALUE, 0), PLACE);
    }

    private static void copy() {
        RefsSettle x = reading();
        x.row(0, 0, 5);
        x.row(1, 0, 4);
        x.row(2, 2, 4);
        for (int i = 0; i < 5; i++) {
            x.set(0, i, 10 + i);
        }
        Check.due("4: three", x.copy(0, 2, 1, 1, 3), 3);
        Check.due("4: ahead", value(x, 1, 0), RefsSettle.NONE);
        Check.due("4: the first", value(x, 1, 1), 12);
        Check.due("4: the last", value(x, 1, 3), 14);
        Check.due("4: none at the ends", x.copy(0, 5, 1, 4, 0), 0);
        Check.due("4: row -1", x.copy(-1, 0, 0, 0, 1), RefsSettle.BAD);
        Check.due("4: row 8", x.copy(0, 0, 8, 0, 1), RefsSettle.BAD);
        Check.due("4: BAD ahead of NULL", x.copy(7, 0, 8, 0, 1), RefsSettle.BAD);
        Check.due("4: NULL ahead of PLACE", x.copy(7, -1, 2, 0, 1), NULL);
        Check.due("4: NULL, the other", x.copy(2, -1, 7, 0, 1), NULL);
        Check.due("4: STORE ahead of PLACE", x.copy(0, -1, 2, 0, 1), STORE);
        Check.due("4: STORE of none", x.copy(0, 0, 2, 0, 0), STORE);
        int[][] places = {{-1, 0, 1}, {0, -1, 1}, {0, 0, -1}, {3, 0, 3}, {0, 2, 3}, {6, 0, 0}, {0, 5, 0},
            {Integer.MAX_VALUE, 0, Integer.MAX_VALUE}, {1, 1, Integer.MAX_VALUE}, {0, 0, Integer.MIN_VALUE}};
        for (int[] p : places) {
            Check.due("4: from " + p[0] + " to " + p[1] + ", " + p[2], x.copy(0, p[0], 1, p[1], p[2]), PLACE);
        }
        Check.due("4: what is found changes nothing", value(x, 1, 1), 12);
    }

    private static void copyWithin() {
        RefsSettle x = reading();
        for (int up = 0; up <= 1; up++) {
            x.row(0, 1, 4);
            for (int i = 0; i < 4; i++) {
                x.set(0, i, 10 + i);
            }
            Check.due("4: within", x.copy(0, up == 1 ? 0 : 1, 0, up == 1 ? 1 : 0, 3), 3);
            int[] due = up == 1 ? new int[] {10, 10, 11, 12} : new int[] {11, 12, 13, 13};
            for (int i = 0; i < 4; i++) {
                Check.due("4: as they were ahead, " + i, value(x, 0, i), due[i]);
            }
        }
    }

    private static void drop() {
        RefsSettle x = new RefsSettle();
        x.row(7, 1, 33);
        x.row(0, 1, 0);
        Check.due("5: 33", x.drop(7), 33);
        Check.due("5: rows", x.count(0), 1);
        Check.due("5: none", x.drop(0), 0);
        Check.due("5: again", x.drop(7), NULL);
        Check.due("5: set", x.set(7, 0, 0), NULL);
        Check.due("5: row -1", x.drop(-1), RefsSettle.BAD);
        Check.due("5: row 8", x.drop(8), RefsSettle.BAD);
        Check.due("5: rows", x.count(0), 0);
    }

    private static void status() {
        RefsSettle x = reading();
        Check.due("34: at first", x.status(), 0);
        x.drop(0);
        Check.due("34: NULL", x.status(), 1);
        x.row(0, 0, 2);
        Check.due("34: row has none", x.status(), 0);
        x.set(0, 2, 0);
        Check.due("34: PLACE", x.status(), 2);
        x.set(0, 1, 0);
        Check.due("34: set has none", x.status(), 0);
        Check.due("34: no break", x.as(0, 5), KIND);
        Check.due("34: KIND", x.status(), 3);
        x.as(0, 4);
        Check.due("34: as has none", x.status(), 0);
        x.row(0, 0, -1);
        Check.due("34: SIZE", x.status(), 4);
        x.copy(0, 0, 0, 1, 1);
        Check.due("34: copy has none", x.status(), 0);
        x.row(1, 1, 2);
        x.copy(0, 0, 1, 0, 1);
        Check.due("34: STORE", x.status(), 5);
        x.drop(1);
        Check.due("34: drop has none", x.status(), 0);
        x.fits(0, 0, 2, 1, 0);
        Check.due("34: PLACE of fits", x.status(), 2);
        x.fits(0, 0, 0, 1, 0);
        Check.due("34: fits has none", x.status(), 0);
        x.fits(0, 6, 0, 1, 0);
        Check.due("34: NULL of fits", x.status(), 1);
    }

    private static void statusStays() {
        RefsSettle x = reading();
        x.drop(5);
        x.row(8, 0, 0);
        x.set(8, 0, 0);
        x.copy(0, 0, 8, 0, 0);
        x.drop(8);
        x.fits(0, 0, 0, 0, 0);
        x.as(0, 6);
        x.feed(-1);
        Check.due("34: BAD does not count", x.status(), 1);
        x.round();
        x.undo();
        x.undo();
        x.item(0, 0);
        x.feed('w');
        x.sheet();
        Check.due("34: others do not count", x.status(), 1);
        Check.due("34: asked again", x.status(), 1);
    }
}

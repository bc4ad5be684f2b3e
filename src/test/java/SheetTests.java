/** Promises 6 to 16, 27, 28 and 33: the tape, sheets, acts, images, and what is counted. */
public final class SheetTests {
    private static final int NONE = RefsSettle.NONE, BAD = RefsSettle.BAD, STATE = RefsSettle.STATE;
    private static final int FULL = RefsSettle.FULL;
    /** Its Roman one is 4 wide by page 8 and moves all on to 10; it is 1 wide by 10 and all stand on 8. */
    private static final String RING = "w4,1,8;t1;m2;t1;";
    private static final String KINDS = "w8,2,8;t6;r6;m7;k;f0;t5;t8;t3;r8;";

    public static void main(String[] args) {
        feed();
        sheet();
        sheetReplaces();
        sheetEndsWhereTheTapeDoes();
        fault();
        round();
        settle();
        number();
        rule();
        anew();
        undo();
        undoOfEach();
        item();
        breaks();
        print();
        printFrozen();
        images();
        imagesKeepAll();
        counts();
        refusalsChangeNothing();
        Check.end();
    }

    private static void feed() {
        RefsSettle x = new RefsSettle();
        Check.due("6: -1", x.feed(-1), BAD);
        Check.due("6: 256", x.feed(256), BAD);
        for (int i = 1; i <= 80; i++) {
            Check.due("6: byte " + i, x.feed(i % 2 == 0 ? 0 : 255), i);
        }
        Check.due("6: 81", x.feed('t'), FULL);
        Check.due("6: BAD ahead of FULL", x.feed(256), BAD);
        Check.due("6: bytes", x.count(8), 80);
        Check.due("6: read", x.sheet(), -1000100);
        Check.due("6: empty then", x.count(8), 0);
        Check.due("6: anew", x.feed('t'), 1);
    }

    private static void good(String text, int items) {
        RefsSettle x = new RefsSettle();
        Check.due("7: " + text, Check.read(x, text), items);
        Check.due("7: ITEMS of " + text, x.count(1), items);
        Check.due("7: no fault in " + text, x.fault(), 0);
    }

    private static void bad(String text, int fault, int place) {
        RefsSettle x = new RefsSettle();
        Check.due("7: place in " + text, Check.read(x, text), -1000100 - place);
        Check.due("7: fault in " + text, x.fault(), fault);
        Check.due("7: ITEMS of " + text, x.count(1), 0);
        Check.due("7: bytes of " + text, x.count(8), 0);
    }

    private static void sheet() {
        good("w4,1,1;t1;", 1);
        good("w20,5,87;t20;k;r0;m1;f2;", 5);
        good("w04,01,01;t01;r00;", 2);
        good("w4,1,1;k;k;k;k;k;k;k;k;k;k;k;r11;", 12);
        bad("", 1, 0);
        bad("t1;", 1, 0);
        bad("W4,1,1;t1;", 1, 0);
        bad(" w4,1,1;t1;", 1, 0);
        bad("w", 1, 1);
        bad("w,", 1, 1);
        bad("w3,1,1;t1;", 2, 1);
        bad("w21,1,1;t1;", 2, 1);
        bad("w004,1,1;t1;", 1, 1);
        bad("w0004,1,1;t1;", 1, 1);
        bad("w00000004,1,1;t1;", 1, 1);
        bad("w4;1,1;t1;", 1, 2);
        bad("w4,0,1;t1;", 2, 3);
        bad("w4,6,1;t1;", 2, 3);
        bad("w4,1,0;t1;", 2, 5);
        bad("w4,1,88;t1;", 2, 5);
        bad("w4,1,100;t1;", 1, 5);
        bad("w4,1,1", 1, 6);
        bad("w4,1,1,t1;", 1, 6);
        bad("w4,1,1;", 1, 7);
        bad("w4,1,1;w", 1, 7);
        bad("w4,1,1;1", 1, 7);
        bad("w4,1,1;" + (char) 233 + "1;", 1, 7);
        bad("w4,1,1;t;", 1, 8);
        bad("w4,1,1;t0;", 2, 8);
        bad("w4,1,1;t21;", 2, 8);
        bad("w4,1,1;t123;", 1, 8);
        bad("w4,1,1;t1", 1, 9);
        bad("w4,1,1;t1,", 1, 9);
        bad("w4,1,1;t1;;", 1, 10);
        bad("w4,1,1;k0;", 1, 8);
        bad("w4,1,1;r12;", 2, 8);
        bad("w4,1,1;m12;", 2, 8);
        bad("w4,1,1;f99;", 2, 8);
        bad("w4,1,1;r1;", 4, 10);
        bad("w4,1,1;m1;", 4, 10);
        bad("w4,1,1;t1;f11;k;", 4, 16);
        bad("w4,1,1;r11;x", 1, 11);
        String twelve = "w4,1,1;k;k;k;k;k;k;k;k;k;k;k;k;";
        good(twelve, 12);
        bad(twelve + "k;", 3, 31);
        bad(twelve + "t", 3, 31);
        bad(twelve + "r99;", 3, 31);
        bad(twelve + "w", 1, 31);
        bad(twelve + ";", 1, 31);
    }

    private static void sheetReplaces() {
        RefsSettle x = Check.with(RING);
        x.settle();
        x.rule(0, 9);
        Check.due("7: a fault", Check.read(x, "w4,1,9;x"), -1000107);
        Check.due("7: all stays", x.count(1) * 1000 + x.count(6) * 100 + x.count(7) * 10 + x.count(5), 3322);
        Check.due("7: WIDTH stays", x.count(2), 9);
        Check.due("7: another", Check.read(x, "w5,2,9;t1;r0;"), 2);
        Check.due("7: GUESS", x.item(1, 1), 9);
        Check.due("7: FROZEN", x.item(1, 2), 0);
        Check.due("7: ROUNDS", x.count(6), 0);
        Check.due("7: ACTS", x.count(7), 0);
        Check.due("7: undo", x.undo(), STATE);
        Check.due("7: an ITEM of the one before", x.item(2, 0), BAD);
    }

    /** Bytes of a longer tape before are no longer there. */
    private static void sheetEndsWhereTheTapeDoes() {
        String text = "w14,5,17;t15;r11;m10;f1;k;t20;k;k;k;k;k;k;";
        for (int length = 0; length < text.length(); length++) {
            RefsSettle x = new RefsSettle();
            Check.due("7: the whole", Check.read(x, text), 12);
            Check.due("7: up to " + length, Check.read(x, text.substring(0, length)), cutAnswer(text, length));
        }
        String full = "w4,1,1;t1;t1;t1;t1;t1;t1;t1;t1;t1;t1;t1;";
        RefsSettle x = new RefsSettle();
        for (int i = 0; i < 80; i++) {
            x.feed(i < full.length() ? full.charAt(i) : '0');
        }
        Check.due("7: 80 bytes", x.sheet(), -1000100 - full.length());
        for (int i = 0; i < 79; i++) {
            x.feed(i == 0 ? 'w' : '1');
        }
        x.feed('1');
        Check.due("7: figures up to the end of 80 bytes", x.sheet(), -1000101);
    }

    /** FAULT 1 or 4 at the end, but for one ITEM that is whole, and a WIDTH that is cut to 1. */
    private static int cutAnswer(String text, int length) {
        String cut = text.substring(0, length);
        if (cut.equals("w14,5,17;t15;")) {
            return 1;
        }
        return -1000100 - (cut.equals("w1") ? 1 : length);
    }

    private static void fault() {
        RefsSettle x = new RefsSettle();
        Check.due("8: at first", x.fault(), 0);
        Check.read(x, "w3");
        Check.due("8: 2", x.fault(), 2);
        Check.read(x, "w4,1,1;t1;");
        Check.due("8: the latest yet", x.fault(), 2);
        Check.read(x, "w4,1,1;r5;");
        Check.due("8: 4", x.fault(), 4);
        x.sheet();
        Check.due("8: 1", x.fault(), 1);
    }

    private static void round() {
        Check.due("9: no SHEET", new RefsSettle().round(), STATE);
        RefsSettle x = Check.with(RING);
        int[][] due = {{2, 9, 10}, {2, 8, 8}, {2, 9, 10}};
        for (int i = 0; i < 3; i++) {
            Check.due("9: changed", x.round(), due[i][0]);
            Check.due("9: GUESS of 0", x.item(0, 1), 8);
            Check.due("9: GUESS of 1", x.item(1, 1), due[i][1]);
            Check.due("9: GUESS of 2", x.item(2, 1), due[i][2]);
            Check.due("9: ROUNDS", x.count(6), i + 1);
            Check.due("9: ACTS", x.count(7), i + 1);
        }
        Check.due("9: no FREEZE by it", x.count(5), 0);
        x = Check.with("w4,1,1;t1;");
        Check.due("9: nothing changes", x.round(), 0);
        Check.due("9: a ROUND all the same", x.count(6), 1);
        Check.due("9: an ACT all the same", x.count(7), 1);
    }

    private static void settle() {
        Check.due("10: no SHEET", new RefsSettle().settle(), STATE);
        RefsSettle x = Check.with(RING);
        Check.due("10: ROUNDS", x.settle(), 3);
        Check.due("10: counted", x.count(6), 3);
        Check.due("10: one ACT", x.count(7), 1);
        Check.due("10: FROZEN", x.item(1, 2), 4);
        Check.due("10: those alone", x.count(5), 2);
        Check.due("10: GUESS of 1", x.item(1, 1), 9);
        Check.due("10: GUESS of 2", x.item(2, 1), 10);
        Check.due("10: none are left", x.settle(), 0);
        Check.due("10: an ACT all the same", x.count(7), 2);
        x = Check.with(KINDS);
        Check.due("10: without a RING", x.settle(), 1);
        Check.due("10: nothing FROZEN", x.count(5), 0);
        x = Check.with(RING);
        x.round();
        Check.due("10: from the GUESSES there are", x.settle(), 2);
        Check.due("10: frozen", x.item(1, 2), 4);
        Check.due("10: counted behind the others", x.count(6), 3);
    }

    private static void number() {
        Check.due("11: no SHEET", new RefsSettle().number(0, 1), BAD);
        RefsSettle x = Check.with(KINDS);
        Check.due("11: a word", x.number(0, 20), 6);
        Check.due("11: what it is", x.item(0, 0), 20);
        Check.due("11: a word", x.number(0, 1), 20);
        Check.due("11: a reference", x.number(2, 8), 7);
        Check.due("11: a reference", x.number(2, 0), 8);
        Check.due("11: the same", x.number(2, 0), 0);
        Check.due("11: ACTS", x.count(7), 5);
        int[][] bad = {{-1, 1}, {9, 1}, {0, 0}, {0, 21}, {0, -1}, {1, -1}, {1, 9}, {3, 0}, {3, 1}, {4, 9}, {8, 9}};
        for (int[] p : bad) {
            Check.due("11: " + p[0] + " of " + p[1], x.number(p[0], p[1]), BAD);
        }
        Check.due("11: ACTS yet", x.count(7), 5);
        x = Check.with(RING);
        x.settle();
        x.number(1, 0);
        Check.due("11: FROZEN stays", x.item(1, 2), 4);
        Check.due("11: GUESS stays", x.item(2, 1), 10);
    }

    private static void rule() {
        RefsSettle x = new RefsSettle();
        Check.due("12: no SHEET", x.rule(0, 4), STATE);
        Check.due("12: STATE ahead of BAD", x.rule(9, 99), STATE);
        Check.read(x, RING);
        x.settle();
        int[][] good = {{0, 20, 4}, {0, 4, 20}, {1, 5, 1}, {1, 1, 5}, {2, 87, 8}, {2, 1, 87}, {2, 1, 1}};
        for (int[] g : good) {
            Check.due("12: " + g[0] + " is " + g[1], x.rule(g[0], g[1]), g[2]);
            Check.due("12: counted", x.count(2 + g[0]), g[1]);
        }
        Check.due("12: ACTS", x.count(7), 8);
        int[][] bad = {{0, 3}, {0, 21}, {1, 0}, {1, 6}, {2, 0}, {2, 88}, {-1, 4}, {3, 4}, {0, Integer.MIN_VALUE}};
        for (int[] b : bad) {
            Check.due("12: " + b[0] + " of " + b[1], x.rule(b[0], b[1]), BAD);
        }
        Check.due("12: ACTS yet", x.count(7), 8);
        Check.due("12: GUESS stays", x.item(2, 1), 10);
        Check.due("12: FROZEN stays", x.item(1, 2), 4);
        Check.due("12: it STANDS by FIRST", x.item(0, 4), 1);
        x = Check.with("w4,1,9;t1;r0;f0;");
        x.rule(2, 10);
        Check.same("12: it PRINTS by GUESS", Check.printed(x, 1), "9");
        Check.due("12: it is WIDE by GUESS", x.item(1, 3) * 10 + x.item(2, 3), 12);
        Check.due("12: all that changed", x.settle(), 2);
        Check.same("12: it PRINTS by GUESS", Check.printed(x, 2), "10f");
        x = Check.with("w4,1,1;t1;");
        x.rule(2, 5);
        Check.due("12: one ITEM is not SETTLED by it", x.settle(), 1);
    }

    private static void anew() {
        RefsSettle x = new RefsSettle();
        Check.due("13: no SHEET", x.anew(), STATE);
        Check.read(x, RING);
        Check.due("13: none", x.anew(), 0);
        x.settle();
        x.rule(2, 30);
        Check.due("13: one", x.anew(), 1);
        Check.due("13: GUESS", x.item(2, 1), 30);
        Check.due("13: FROZEN", x.item(1, 2), 0);
        Check.due("13: ROUNDS stay", x.count(6), 3);
        Check.due("13: ACTS", x.count(7), 4);
        x.undo();
        Check.due("13: undone, FROZEN", x.item(1, 2), 4);
        Check.due("13: undone, GUESS", x.item(2, 1), 10);
    }

    private static void undo() {
        Check.due("14: no SHEET", new RefsSettle().undo(), STATE);
        RefsSettle x = Check.with("w4,1,1;t20;t1;");
        Check.due("14: none", x.undo(), STATE);
        for (int n = 1; n <= 20; n++) {
            x.number(0, n);
            x.rule(2, n);
        }
        Check.due("14: 24 are kept", x.count(7), 24);
        for (int left = 23; left >= 0; left--) {
            Check.due("14: undone", x.undo(), left);
            Check.due("14: N by then", x.item(0, 0), 20 - (23 - left) / 2 - (left % 2 == 0 ? 1 : 0));
        }
        Check.due("14: the oldest that is kept", x.count(4), 8);
        Check.due("14: no more", x.undo(), STATE);
        Check.due("14: an ACT behind it", x.round(), 2);
        Check.due("14: undone", x.undo(), 0);
    }

    private static void undoOfEach() {
        RefsSettle x = Check.with(RING);
        String[] before = new String[6];
        before[0] = Whole.sheet(x);
        x.round();
        before[1] = Whole.sheet(x);
        x.settle();
        before[2] = Whole.sheet(x);
        x.number(0, 3);
        before[3] = Whole.sheet(x);
        x.rule(1, 2);
        before[4] = Whole.sheet(x);
        x.anew();
        before[5] = Whole.sheet(x);
        x.settle();
        for (int i = 5; i >= 0; i--) {
            Check.due("14: left", x.undo(), i);
            Check.same("14: undone " + i, Whole.sheet(x), before[i]);
        }
    }

    private static String shown(RefsSettle x) {
        return sheetOf(x) + " a" + x.count(7);
    }

    /** All that can be seen but the ACTS and what is foretold. */
    private static String sheetOf(RefsSettle x) {
        StringBuilder all = new StringBuilder();
        for (int what = 0; what <= 8; what++) {
            all.append(what == 7 ? 0 : x.count(what)).append(' ');
        }
        for (int item = 0; item < x.count(1); item++) {
            all.append("| ").append(x.kind(item));
            for (int what = 0; what <= 6; what++) {
                all.append(' ').append(x.item(item, what));
            }
        }
        for (int i = 0; i < 7; i++) {
            all.append(" t").append(x.trace(i));
        }
        return all.append(" f").append(x.fault()).toString();
    }

    private static void item() {
        Check.due("15: no SHEET", new RefsSettle().item(0, 0), BAD);
        // Three LINES of ten: 6 and iii, then 7 and 3f and 1, then a break, then 20 alone, then 1.
        RefsSettle x = Check.with("w10,3,3;t6;m0;t7;f0;r0;k;t20;t1;");
        int[][] due = {{6, 3, 0, 6, 3, 0, 0}, {0, 3, 0, 3, 3, 0, 6}, {7, 3, 0, 7, 3, 1, 0}, {0, 3, 0, 2, 3, 1, 7},
            {0, 3, 0, 1, 3, 1, 9}, {0, 3, 0, 0, 3, 1, 10}, {20, 3, 0, 20, 4, 0, 0}, {1, 3, 0, 1, 4, 1, 0}};
        for (int i = 0; i < due.length; i++) {
            for (int what = 0; what <= 6; what++) {
                Check.due("15: " + i + ", " + what, x.item(i, what), due[i][what]);
            }
        }
        Check.due("15: ITEM -1", x.item(-1, 0), BAD);
        Check.due("15: ITEM 8", x.item(8, 0), BAD);
        Check.due("15: what -1", x.item(0, -1), BAD);
        Check.due("15: what 7", x.item(0, 7), BAD);
        x = Check.with(RING);
        x.settle();
        Check.due("15: FROZEN", x.item(1, 2), 4);
        Check.due("15: WIDE by it", x.item(1, 3), 4);
        Check.due("15: PRINT is shorter", Check.printed(x, 1).trim().length(), 1);
    }

    private static void breaks() {
        RefsSettle x = Check.with("w4,2,5;k;k;t4;k;t4;t4;t4;k;t1;");
        int[][] due = {{5, 0, 0}, {6, 0, 0}, {7, 0, 0}, {7, 0, 4}, {8, 0, 0}, {8, 1, 0}, {9, 0, 0}, {9, 0, 4},
            {10, 0, 0}};
        for (int i = 0; i < due.length; i++) {
            for (int what = 0; what < 3; what++) {
                Check.due("15: break " + i + ", " + what, x.item(i, 4 + what), due[i][what]);
            }
        }
    }

    private static String roman(int page) {
        int[] values = {90, 50, 40, 10, 9, 5, 4, 1};
        String[] signs = {"xc", "l", "xl", "x", "ix", "v", "iv", "i"};
        StringBuilder text = new StringBuilder();
        for (int i = 0; i < values.length; i++) {
            for (; page >= values[i]; page -= values[i]) {
                text.append(signs[i]);
            }
        }
        return text.toString();
    }

    private static void print() {
        Check.due("16: no SHEET", new RefsSettle().print(0, 0), BAD);
        for (int first = 1; first <= 87; first++) {
            RefsSettle x = Check.with("w20,5," + first + ";m11;r11;f11;k;k;k;k;k;k;k;k;k;");
            for (int times = 0; times < 2; times++) {
                int page = first + 8 * times;
                Check.same("16: Roman " + page, Check.printed(x, 0), roman(page));
                Check.same("16: figures " + page, Check.printed(x, 1), "" + page);
                Check.same("16: following " + page, Check.printed(x, 2), page + "f");
                for (int item = 0; item < 3; item++) {
                    Check.due("16: WIDE", x.item(item, 3), Check.printed(x, item).length());
                }
                x.settle();
            }
        }
        Check.same("16: the longest", roman(88), "lxxxviii");
        RefsSettle x = Check.with(KINDS);
        Check.due("16: a word", x.print(0, 0), BAD);
        Check.due("16: a break", x.print(3, 0), BAD);
        Check.due("16: ITEM 9", x.print(9, 0), BAD);
        Check.due("16: ITEM -1", x.print(-1, 0), BAD);
        Check.due("16: j -1", x.print(1, -1), BAD);
        Check.due("16: j at most", x.print(1, Integer.MAX_VALUE), NONE);
        Check.due("16: f", x.print(4, 1), 'f');
        Check.due("16: behind f", x.print(4, 2), NONE);
    }

    private static void printFrozen() {
        RefsSettle x = Check.with(RING);
        x.settle();
        Check.same("16: with blanks", Check.printed(x, 1), "x   ");
        Check.due("16: the last blank", x.print(1, 3), 32);
        Check.due("16: behind it", x.print(1, 4), NONE);
        x.rule(2, 86);
        x.round();
        Check.same("16: longer than FROZEN", Check.printed(x, 1), "lxxxviii");
    }

    private static void images() {
        RefsSettle x = new RefsSettle();
        Check.due("27: BAD ahead of STATE", x.image(2), BAD);
        Check.due("27: -1", x.image(-1), BAD);
        Check.due("27: no SHEET", x.image(1), STATE);
        Check.due("28: BAD ahead of STATE", x.restore(2), BAD);
        Check.due("28: -1", x.restore(-1), BAD);
        Check.due("28: none", x.restore(1), STATE);
        Check.read(x, RING);
        Check.due("27: kept", x.image(1), 1);
        Check.due("28: the other one", x.restore(0), STATE);
        Check.due("27: no ACT", x.count(7), 0);
        x.round();
        Check.due("28: restored", x.restore(1), 1);
        Check.due("28: no ACT can be undone", x.undo(), STATE);
        Check.due("28: again", x.restore(1), 1);
    }

    private static void imagesKeepAll() {
        RefsSettle x = Check.with(RING);
        x.settle();
        x.number(0, 2);
        x.rule(0, 5);
        x.rule(1, 2);
        x.rule(2, 9);
        String before = sheetOf(x);
        x.image(0);
        Check.due("27: ACTS stay", x.count(7), 5);
        Check.read(x, KINDS);
        x.image(1);
        x.round();
        x.restore(0);
        Check.same("28: all as it was", sheetOf(x), before);
        Check.due("28: ACTS", x.count(7), 0);
        x.settle();
        x.restore(0);
        Check.same("28: an IMAGE stays", sheetOf(x), before);
        x.restore(1);
        Check.due("28: the other one", x.count(1), 9);
        Check.due("28: ahead of the ROUND", x.count(6), 0);
        x.number(0, 9);
        x.image(1);
        x.number(0, 8);
        x.restore(1);
        Check.due("27: in place of the one before", x.item(0, 0), 9);
    }

    private static void counts() {
        RefsSettle x = Check.with("w7,3,40;t1;m2;t1;k;");
        x.row(3, 0, 0);
        x.row(4, 0, 0);
        x.feed('w');
        x.feed('w');
        x.feed('w');
        x.round();
        int[] due = {2, 4, 7, 3, 40, 0, 1, 1, 3};
        for (int what = 0; what <= 8; what++) {
            Check.due("33: " + what, x.count(what), due[what]);
        }
        Check.due("33: -1", x.count(-1), BAD);
        Check.due("33: 9", x.count(9), BAD);
        x = Check.with(RING);
        x.settle();
        Check.due("33: FROZEN", x.count(5), 2);
    }

    private static void refusalsChangeNothing() {
        RefsSettle x = Check.with(RING);
        x.settle();
        x.ask(1, 0);
        x.feed('w');
        x.row(0, 0, 3);
        String before = shown(x);
        int[] wild = {Integer.MIN_VALUE, -1, 3, 12, 88, 1000000, Integer.MAX_VALUE};
        for (int v : wild) {
            x.feed(v < 0 || v > 255 ? v : -v);
            x.number(v, 1);
            x.number(0, v == 3 || v == 12 ? 21 : v);
            x.rule(v, 4);
            x.rule(0, v == 12 ? 3 : v);
            x.item(v, 0);
            x.print(v, 0);
            x.behind(v, 0);
            x.fits(v, 0, 0, 1, 0);
            x.fits(0, 0, v, 2, 0);
            x.ask(v, 0);
            x.ask(0, v);
            x.as(v, 0);
            x.as(0, 5);
            x.image(v);
            x.restore(v);
            x.restore(0);
            x.row(0, v, 1);
            x.row(8, 0, 3);
            x.set(0, v, 9);
            x.copy(0, v, 0, 1, 1);
            x.drop(v == 3 ? 4 : v);
        }
        Check.same("refused or found, nothing changes", shown(x), before);
    }
}

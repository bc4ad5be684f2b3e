/** Promises 17 to 26: what is foretold, by sheets that are small enough to be set out by hand. */
public final class ForetoldTests {
    private static final int NONE = RefsSettle.NONE, BAD = RefsSettle.BAD, STATE = RefsSettle.STATE;
    private static final int NULL = -1000011, PLACE = -1000012;
    /** Its Roman one is 4 wide by page 8 and moves all on to 10; it is 1 wide by 10 and all stand on 8. */
    private static final String RING = "w4,1,8;t1;m2;t1;";

    public static void main(String[] args) {
        behind();
        lies();
        settled();
        settledByLongRing();
        ends();
        moves();
        movesOfWide();
        movesOfPageOrLine();
        room();
        roomIsBegunAnew();
        restless();
        restlessEdges();
        fitsKinds();
        fitsNumbers();
        fitsFirsts();
        fitsRefusals();
        chance();
        chanceEdges();
        drawn();
        drawnEdges();
        nothingChanges();
        Check.end();
    }

    private static void behind() {
        Check.due("17: no SHEET", new RefsSettle().behind(0, 0), BAD);
        RefsSettle x = Check.with(RING);
        for (int n = 0; n <= 60; n++) {
            Check.due("17: 0 behind " + n, x.behind(0, n), 8);
            Check.due("17: 1 behind " + n, x.behind(1, n), n % 2 == 0 ? 8 : 9);
            Check.due("17: 2 behind " + n, x.behind(2, n), n % 2 == 0 ? 8 : 10);
        }
        Check.due("17: -1", x.behind(0, -1), BAD);
        Check.due("17: 61", x.behind(0, 61), BAD);
        Check.due("17: ITEM -1", x.behind(-1, 0), BAD);
        Check.due("17: ITEM 3", x.behind(3, 0), BAD);
        x.settle();
        Check.due("17: with FROZEN as it is", x.behind(2, 7), 10);
    }

    private static void lies() {
        Check.due("18: no SHEET", new RefsSettle().lies(), STATE);
        RefsSettle x = Check.with(RING);
        Check.due("18: of 2, which stands on 10", x.lies(), 2);
        x.number(1, 0);
        Check.due("18: of 0, which stands on 8", x.lies(), 0);
        x.number(1, 2);
        x.settle();
        Check.due("18: settled", x.lies(), 0);
        x.rule(2, 9);
        Check.due("18: moved on", x.lies(), 2);
        x = Check.with("w4,1,1;r4;f4;m4;k;r4;r0;");
        Check.due("18: r, f, m, and of itself", x.lies(), 16 + 7);
    }

    private static void settled() {
        RefsSettle x = new RefsSettle();
        Check.due("19: no SHEET", x.settled(0), STATE);
        Check.due("19: STATE ahead of BAD", x.settled(9), STATE);
        Check.read(x, RING);
        int[] due = {3, 1, 2, 2, 10, 1};
        for (int what = 0; what <= 5; what++) {
            Check.due("19: " + what, x.settled(what), due[what]);
        }
        Check.due("19: -1", x.settled(-1), BAD);
        Check.due("19: 6", x.settled(6), BAD);
        x.settle();
        int[] then = {0, 0, 0, 2, 10, 1};
        for (int what = 0; what <= 5; what++) {
            Check.due("19: then " + what, x.settled(what), then[what]);
        }
    }

    private static void settledByLongRing() {
        RefsSettle x = Check.with("w5,1,5;t2;m6;m2;m8;m8;m7;m7;m3;t3;m5;");
        int[] due = {16, 1, 11};
        for (int what = 0; what < 3; what++) {
            Check.due("19: a RING of eleven, " + what, x.settled(what), due[what]);
        }
        x = Check.with("w6,1,13;m9;m7;m8;m11;m2;m8;f0;m9;m9;m11;r2;m5;");
        Check.due("19: three FREEZES", x.settled(1), 3);
        Check.due("19: the RING of the first", x.settled(2), 2);
        Check.due("19: settled", x.settled(5), 1);
        Check.due("10: as it was foretold", x.settle(), 14);
        Check.due("10: settled", x.settled(0), 0);
    }

    private static void ends() {
        Check.due("20: no SHEET", new RefsSettle().ends(0), BAD);
        RefsSettle x = Check.with(RING);
        int[] due = {8, 9, 10};
        for (int i = 0; i < 3; i++) {
            Check.due("20: " + i, x.ends(i), due[i]);
        }
        x.number(0, 2);
        x.number(2, 2);
        Check.due("20: as it is now", x.ends(2), 9);
        Check.due("20: -1", x.ends(-1), BAD);
        Check.due("20: 3", x.ends(3), BAD);
    }

    private static void moves() {
        Check.due("21: no SHEET", new RefsSettle().moves(0), BAD);
        // 6 and 3 and 1 fill a LINE of ten: were one wider, 1 would begin the next, ahead of 4 and the break.
        RefsSettle x = Check.with("w10,2,1;t6;t3;t1;t4;k;r3;");
        Check.due("21: 6", x.moves(0), 2 + 4 + 8 + 16);
        Check.due("21: 3", x.moves(1), 4 + 8 + 16);
        Check.due("21: 1, which moves itself", x.moves(2), 4 + 8 + 16);
        Check.due("21: 4, with the break behind it", x.moves(3), 16);
        Check.due("21: a break", x.moves(4), BAD);
        Check.due("21: the last", x.moves(5), 0);
        Check.due("21: -1", x.moves(-1), BAD);
        Check.due("21: 6", x.moves(6), BAD);
    }

    private static void movesOfWide() {
        RefsSettle x = Check.with("w20,1,1;t20;t1;");
        Check.due("21: 20 and one more", x.moves(0), 0);
        x.rule(0, 4);
        Check.due("21: wider than a LINE", x.moves(0), 0);
        x = Check.with(RING);
        x.settle();
        Check.due("21: a FROZEN one", x.moves(1), 0);
        x.rule(0, 6);
        Check.due("21: a FROZEN one, 5 wide then", x.moves(1), 4);
    }

    private static void movesOfPageOrLine() {
        Check.due("21: another LINE", Check.with("w4,5,1;t2;t2;t4;").moves(0), 6);
        Check.due("21: another PAGE", Check.with("w4,1,1;t2;t2;t4;").moves(0), 6);
        Check.due("21: another COLUMN", Check.with("w9,1,1;t2;t2;t4;").moves(0), 6);
    }

    private static void room() {
        Check.due("22: no SHEET", new RefsSettle().room(0), BAD);
        RefsSettle x = Check.with(RING);
        // By 2 it must freeze and ends on 10, as now; by 3 and more it comes to rest on 9.
        Check.due("22: the last word", x.room(2), 2);
        Check.due("22: a reference", x.room(1), BAD);
        Check.due("22: -1", x.room(-1), BAD);
        Check.due("22: 3", x.room(3), BAD);
        x = Check.with("w10,1,5;t3;t4;k;t2;");
        Check.due("22: up to the end of the LINE", x.room(1), 7);
        Check.due("22: with the one behind it", x.room(0), 6);
        Check.due("22: a break", x.room(2), BAD);
        Check.due("22: the last", x.room(3), 20);
        x.rule(0, 4);
        x.number(3, 20);
        Check.due("22: not less than it is", x.room(3), 20);
    }

    private static void roomIsBegunAnew() {
        RefsSettle x = Check.with(RING);
        x.settle();
        Check.due("22: FROZEN is not looked at", x.room(2), 2);
        x.number(2, 3);
        Check.due("22: nor are GUESSES", x.room(2), 20);
        x.round();
        Check.due("22: behind a ROUND", x.room(2), 20);
        // On page 88 the Roman one has 8 signs, which leave 11 in its LINE.
        x = Check.with("w19,1,87;k;m3;t11;k;t1;");
        Check.due("22: by 12 and more it ends a PAGE further on", x.room(2), 11);
    }

    private static void restlessEdges() {
        // On page 88 the Roman one has 8 signs and moves the break on to 89; by 89 it has 6.
        RefsSettle x = Check.with("w19,1,5;k;m3;t12;k;");
        Check.due("23: the last FIRST", x.restless(), 87);
        x.rule(2, 87);
        x.settle();
        Check.due("23: FROZEN", x.count(5), 2);
        Check.due("23: begun anew", x.restless(), 87);
        x.number(2, 11);
        Check.due("23: no more", x.restless(), NONE);
        x = Check.with("w4,1,40;m9;m10;m0;r9;m11;m4;m6;m3;m2;m6;m2;m1;");
        Check.due("23: the first FIRST", x.restless(), 1);
        x.rule(2, 1);
        x.anew();
        x.settle();
        Check.due("23: begun anew", x.restless(), 1);
        Check.due("33: ITEM 0 is FROZEN", x.count(5) & 1, x.item(0, 2) > 0 ? 1 : 0);
    }

    private static void restless() {
        Check.due("23: no SHEET", new RefsSettle().restless(), STATE);
        RefsSettle x = Check.with(RING);
        // By 1 and 2 all fit one LINE; by iii the last goes on to page 4, and by iv comes back.
        Check.due("23: the least", x.restless(), 3);
        x.number(0, 4);
        x.number(2, 4);
        Check.due("23: all alone in their LINES", x.restless(), NONE);
        Check.due("23: without references", Check.with("w4,1,9;t1;").restless(), NONE);
    }

    private static void row(RefsSettle x, int row, int... values) {
        x.row(row, 2, values.length);
        for (int i = 0; i < values.length; i++) {
            x.set(row, i, values[i]);
        }
    }

    private static void fitsKinds() {
        RefsSettle x = Check.with(RING);
        row(x, 0, 77, 10, 8, 10, 9);
        Check.due("24: all but a break", x.fits(2, 0, 1, 3, 0), 2 + 4 + 8 + 16);
        Check.due("24: a break", x.fits(2, 0, 4, 1, 0), 32);
        Check.due("24: none", x.fits(2, 0, 0, 1, 0), 0);
        x.number(2, 5);
        row(x, 1, 10);
        Check.due("24: N is no ITEM of a reference", x.fits(2, 1, 0, 1, 0), 16);
        x = Check.with("w4,1,8;k;t1;");
        row(x, 0, 8, 8);
        Check.due("24: N of a break is 0: no word", x.fits(0, 0, 0, 2, 0), 2 + 4 + 8 + 32);
        row(x, 1, 8);
        Check.due("24: behind a break, none", x.fits(1, 1, 0, 1, 0), 0);
    }

    private static void fitsNumbers() {
        RefsSettle x = Check.with(RING);
        row(x, 0, 10, 8, 10);
        Check.due("24: 1 and 2", x.fits(2, 0, 0, 3, 1), 6);
        Check.due("24: every one by one ROUND", x.fits(2, 0, 0, 1, 1), (1 << 21) - 2);
        row(x, 1, 9, 8);
        Check.due("24: of a reference, itself and the last", x.fits(1, 1, 0, 2, 1), 6);
        Check.due("24: of a reference, all by one ROUND", x.fits(1, 1, 0, 1, 1), 7);
        x = Check.with("w4,1,8;k;t1;");
        row(x, 0, 8);
        Check.due("24: of a break, any", x.fits(0, 0, 0, 1, 1), (1 << 21) - 1);
        row(x, 0, 9);
        Check.due("24: of a break, none", x.fits(0, 0, 0, 1, 1), 0);
    }

    private static void fitsFirsts() {
        RefsSettle x = Check.with(RING);
        row(x, 0, 9, 50, 88, 87, 1);
        int[][] due = {{9, 7}, {50, 48}, {88, 86}, {87, 85}, {1, NONE}};
        for (int i = 0; i < due.length; i++) {
            Check.due("24: how many for " + due[i][0], x.fits(2, 0, i, 1, 2), due[i][1] == NONE ? 0 : 1);
            Check.due("24: the least for " + due[i][0], x.fits(2, 0, i, 1, 3), due[i][1]);
        }
        Check.due("24: 88 of the first", x.fits(0, 0, 2, 1, 3), NONE);
        Check.due("24: 87 of the first", x.fits(0, 0, 3, 1, 3), 87);
        Check.due("24: 1 of the first", x.fits(0, 0, 4, 1, 3), 1);
        row(x, 0, 10, 8, 10, 8, 10, 8, 10, 8, 10, 8, 10, 8);
        Check.due("24: twelve", x.fits(2, 0, 0, 12, 3), 8);
        Check.due("24: the second on", x.fits(2, 0, 1, 11, 3), NONE);
    }

    private static void fitsRefusals() {
        Check.due("24: no SHEET", new RefsSettle().fits(0, 0, 0, 1, 0), BAD);
        RefsSettle x = Check.with(RING);
        x.row(0, 0, 12);
        int[][] bad = {{-1, 0, 0, 1, 0}, {3, 0, 0, 1, 0}, {0, -1, 0, 1, 0}, {0, 8, 0, 1, 0}, {0, 0, 0, 0, 0},
            {0, 0, 0, 13, 0}, {0, 0, 0, 1, -1}, {0, 0, 0, 1, 4}, {0, 1, 0, 0, 0}, {0, 0, -1, 1, 4}};
        for (int[] b : bad) {
            Check.due("24: BAD", x.fits(b[0], b[1], b[2], b[3], b[4]), BAD);
        }
        Check.due("24: NULL ahead of PLACE", x.fits(0, 1, -1, 1, 0), NULL);
        Check.due("24: -1", x.fits(0, 0, -1, 1, 0), PLACE);
        Check.due("24: beyond the end", x.fits(0, 0, 1, 12, 0), PLACE);
        Check.due("24: at the end", x.fits(0, 0, 12, 1, 0), PLACE);
        Check.due("24: at most", x.fits(0, 0, Integer.MAX_VALUE, 12, 0), PLACE);
        Check.due("24: up to the end", x.fits(0, 0, 0, 12, 0), 0);
    }

    private static void chance() {
        RefsSettle x = new RefsSettle();
        Check.due("25: no SHEET", x.chance(0, 0), STATE);
        Check.due("25: STATE ahead of BAD", x.chance(11, 2), STATE);
        Check.read(x, RING);
        // Only if both words grow it comes to rest by itself, on 9.
        int[][] due = {{0, 0, 1}, {1, 1, 100}, {2, 1, 25}, {3, 9, 100}, {5, 1, 4}, {9, 81, 100}, {10, 1, 1}};
        for (int[] d : due) {
            Check.due("25: above " + d[0], x.chance(d[0], 0), d[1]);
            Check.due("25: below " + d[0], x.chance(d[0], 1), d[2]);
        }
        Check.due("25: -1", x.chance(-1, 0), BAD);
        Check.due("25: 11", x.chance(11, 0), BAD);
        Check.due("25: what -1", x.chance(0, -1), BAD);
        Check.due("25: what 2", x.chance(0, 2), BAD);
        x.settle();
        Check.due("25: begun anew", x.chance(3, 0), 9);
    }

    private static void chanceEdges() {
        RefsSettle x = Check.with("w4,1,8;m1;k;t20;");
        Check.due("25: 20 at most", x.chance(7, 0), 1);
        Check.due("25: of one way only", x.chance(7, 1), 1);
        x = Check.with("w4,1,8;r1;m2;r0;");
        Check.due("25: without words, by a RING", x.chance(5, 0), 0);
        Check.due("25: 0 is 0 by 1", x.chance(5, 1), 1);
        x = Check.with("w20,5,1;t1;t1;t1;t1;t1;t1;t1;t1;t1;t1;t1;t1;");
        Check.due("25: twelve words", x.chance(3, 0), 1);
        Check.due("25: twelve words", x.chance(3, 1), 1);
        x = Check.with("w4,1,8;t1;m2;t1;k;t1;");
        Check.due("25: a word that moves nothing", x.chance(3, 0), 9);
        Check.due("25: in lowest terms", x.chance(3, 1), 100);
    }

    private static void drawn() {
        RefsSettle x = new RefsSettle();
        Check.due("26: no SHEET", x.drawn(0, 1, 0), STATE);
        Check.due("26: STATE ahead of BAD", x.drawn(99, 0, 9), STATE);
        // X is 16807: word 1 becomes 8 and goes on; then 282475249: word 1 becomes 10; then
        // 1622650073: word 1 becomes 14; then 984943658: word 0 becomes 19.
        Check.read(x, "w4,1,1;t1;t1;");
        int[][] due = {{0, 0, 1}, {1, 1, 2}, {2, 1, 2}, {3, 1, 2}, {4, 1, 2}};
        for (int[] d : due) {
            Check.due("26: how many of " + d[0], x.drawn(d[0], 1, 0), d[1]);
            Check.due("26: the PAGE behind " + d[0], x.drawn(d[0], 1, 1), d[2]);
        }
        x.rule(0, 13);
        // Now 8 and 10 fit behind 1, and 14 does not.
        int[] pages = {1, 1, 1, 2, 2};
        for (int n = 0; n < pages.length; n++) {
            Check.due("26: the PAGE in wider LINES behind " + n, x.drawn(n, 1, 1), pages[n]);
            Check.due("26: how many in wider LINES of " + n, x.drawn(n, 1, 0), n < 3 ? 0 : 1);
        }
    }

    private static void drawnEdges() {
        // r2 tells 10 now and would go on to page 10 by the next ROUND, if it stayed as it is.
        RefsSettle x = Check.with("w4,1,9;t3;r2;t1;");
        x.round();
        Check.due("26: the reference is drawn, and tells its own 9", x.drawn(1, 1, 0), 0);
        Check.due("26: the first word is drawn, and becomes 2", x.drawn(1, 3, 0), 0);
        Check.due("26: the first word is drawn, and becomes 3", x.drawn(1, 6, 0), 1);
        Check.due("26: the PAGE", x.drawn(1, 6, 1), 10);
        int[][] bad = {{-1, 1, 0}, {61, 1, 0}, {0, 0, 0}, {0, 1000000, 0}, {0, -1, 0}, {0, 1, -1}, {0, 1, 2}};
        for (int[] b : bad) {
            Check.due("26: BAD", x.drawn(b[0], b[1], b[2]), BAD);
        }
        Check.due("26: all of 60", x.drawn(60, 999999, 0) >= 0 ? 1 : 0, 1);
        x = Check.with("w4,1,1;t1;");
        x.rule(2, 5);
        Check.due("26: one ITEM", x.drawn(3, 1, 0), 1);
        Check.due("26: its PAGE by GUESS", x.drawn(3, 1, 1), 5);
        Check.due("26: its GUESS yet", x.drawn(0, 1, 1), 1);
        x = Check.with("w4,1,5;k;");
        Check.due("26: a break stays", x.drawn(60, 7, 0), 0);
        Check.due("26: its PAGE", x.drawn(60, 7, 1), 5);
    }

    private static void nothingChanges() {
        RefsSettle x = Check.with(RING);
        row(x, 0, 10, 8);
        x.round();
        for (int i = 0; i < 3; i++) {
            x.behind(i, 3);
            x.lies();
            x.settled(i);
            x.ends(i);
            x.moves(i);
            x.room(i);
            x.restless();
            x.fits(i, 0, 0, 2, i);
            x.chance(4, 0);
            x.drawn(30, 5, 0);
        }
        int[] due = {1, 3, 4, 1, 8, 0, 1, 1, 0};
        for (int what = 0; what <= 8; what++) {
            Check.due("foretold, count " + what, x.count(what), due[what]);
        }
        int[][] items = {{1, 8, 0}, {2, 9, 0}, {1, 10, 0}};
        for (int i = 0; i < 3; i++) {
            for (int what = 0; what < 3; what++) {
                Check.due("foretold, ITEM " + i + ", " + what, x.item(i, what), items[i][what]);
            }
        }
        Check.due("foretold, undone", x.undo(), 0);
        Check.due("foretold, as it was", x.item(2, 1), 8);
    }
}

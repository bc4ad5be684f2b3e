/** Boundary cases of promises 9 to 16: ACTS, where an ITEM STANDS, and what is printed. */
public final class EdgeActTests extends Edges {
    public static void main(String[] args) {
        runAll(EdgeActTests.class, args);
    }

    /** LONG with so many ROUNDS, begun anew, so that TO SETTLE takes 54 more of them. */
    private static RefsSettle withRounds(int rounds) {
        RefsSettle x = Check.with(LONG);
        for (int i = 0; i < rounds / 54; i++) {
            x.settle();
            x.anew();
        }
        for (int i = 0; i < rounds % 54; i++) {
            x.round();
        }
        x.anew();
        return x;
    }

    /** So near to the 512th call the ACTS are not undone: the SHEET and how many they are must do. */
    private static void full(RefsSettle x, String what, int answer) {
        Check.due(what, answer, FULL);
        Check.same(what + ", the SHEET", Whole.sheet(x), Whole.sheet(withRounds(x.count(6))));
        Check.due(what + ", status()", x.status(), 0);
    }

    static void promise09_noSheetIsState() {
        refused(Edges::bare, "bare", STATE, x -> x.round());
        refused(RefsSettle::new, "new", STATE, x -> x.round());
    }

    static void promise09_the9999thRoundIsTheLast() {
        RefsSettle x = withRounds(9998);
        Check.due("9998", x.count(6), 9998);
        Check.due("the last is done", x.round() >= 0 ? 1 : 0, 1);
        Check.due("9999", x.count(6), 9999);
        x = withRounds(9999);
        full(x, "one more", x.round());
    }

    static void promise09_fullIsAheadEvenIfNothingWouldChange() {
        RefsSettle x = withRounds(9945);
        Check.due("settled", x.settle(), 54);
        Check.due("nothing would change", x.settled(0), 0);
        Check.due("FULL all the same", x.round(), FULL);
        Check.due("9999", x.count(6), 9999);
    }

    static void promise09_behindAnUndoThereIsRoomAgain() {
        RefsSettle x = withRounds(9998);
        x.round();
        Check.due("FULL", x.round(), FULL);
        x.undo();
        Check.due("9998 again", x.count(6), 9998);
        Check.due("taken", x.round() >= 0 ? 1 : 0, 1);
    }

    static void promise09_howManyGuessesChanged() {
        RefsSettle x = Check.with(SHEET);
        int[] due = {5, 5, 5};
        for (int i = 0; i < due.length; i++) {
            Check.due("ROUND " + i, x.round(), due[i]);
        }
        x = Check.with("w4,1,1;t1;t1;");
        Check.due("none", x.round(), 0);
        Check.due("a ROUND all the same", x.count(6), 1);
        Check.due("an ACT all the same", x.count(7), 1);
        x = Check.with("w4,1,1;k;k;k;k;k;k;k;k;k;k;k;k;");
        Check.due("all but the first of twelve", x.round(), 11);
        x.rule(2, 50);
        Check.due("all twelve", x.round(), 12);
    }

    static void promise10_noSheetIsState() {
        refused(Edges::bare, "bare", STATE, x -> x.settle());
        refused(RefsSettle::new, "new", STATE, x -> x.settle());
    }

    static void promise10_upTo9999Rounds() {
        RefsSettle x = withRounds(9945);
        Check.due("9945", x.count(6), 9945);
        Check.due("54 more", x.settle(), 54);
        Check.due("9999", x.count(6), 9999);
        x = withRounds(9946);
        full(x, "9946 and 54 more", x.settle());
        x = withRounds(9999);
        full(x, "9999 and 54 more", x.settle());
    }

    static void promise10_noRoundMoreIsNotFull() {
        RefsSettle x = withRounds(9945);
        x.settle();
        int acts = x.count(7);
        Check.due("settled already", x.settle(), 0);
        Check.due("9999", x.count(6), 9999);
        Check.due("ACTS, as many as are kept", x.count(7), acts);
    }

    static void promise10_settledAlreadyNoRoundIsDone() {
        RefsSettle x = Check.with("w4,1,1;t1;t1;");
        Check.due("no ROUND", x.settle(), 0);
        Check.due("none is counted", x.count(6), 0);
        x = Check.with("w4,1,1;t4;t1;");
        Check.due("one ROUND", x.settle(), 1);
        Check.due("it is counted", x.count(6), 1);
        Check.due("then none", x.settle(), 0);
        Check.due("none is counted more", x.count(6), 1);
    }

    static void promise10_frozenAtTheWidestOfTheRing() {
        RefsSettle x = Check.with(SHEET);
        Check.due("ROUNDS", x.settle(), 3);
        Check.same("m2 by viii, f4 by 11f, the others not", Whole.sheet(x),
            "sheet 6 4 1 8 34 3 1 | 4 1 8 0 | 2 2 9 4 | 4 1 10 0 | 5 0 10 0 | 1 0 11 0 | 3 4 11 3");
    }

    static void promise10_theFirstAndTheLastItemAreFrozenToo() {
        RefsSettle x = Check.with("w4,1,8;m1;t1;k;k;k;k;k;k;k;k;k;m1;");
        Check.due("ROUNDS", x.settle(), 3);
        Check.due("ITEM 0", x.item(0, 2), 4);
        Check.due("ITEM 11", x.item(11, 2), 4);
        Check.due("no others", x.count(5), 2049);
    }

    static void promise10_oneItemAlone() {
        RefsSettle x = Check.with("w4,1,1;t1;");
        x.rule(2, 5);
        Check.due("its GUESS is another", x.settle(), 1);
        Check.due("GUESS", x.item(0, 1), 5);
    }

    /** A RING is found only among the ROUNDS of one TO SETTLE: it takes two more though one was done. */
    static void promise10_roundsBeforeAreNotLookedAt() {
        RefsSettle x = Check.with(RING);
        x.round();
        x.round();
        x.round();
        Check.due("a RING of two once more", x.settle(), 2);
        Check.due("counted behind the others", x.count(6), 5);
        Check.due("FROZEN", x.item(1, 2), 4);
    }

    static void promise11_itemsThatThereAre() {
        taken("the first", 2, x -> x.number(0, 1));
        taken("the last", 4, x -> x.number(5, 1));
        badBeyondItems((x, item) -> x.number(item, 1));
    }

    static void promise11_aWordIs1To20() {
        taken("1", 2, x -> x.number(0, 1));
        taken("20", 2, x -> x.number(0, 20));
        for (int n : outside(1, 20)) {
            refused("N " + n, BAD, x -> x.number(0, n));
        }
    }

    static void promise11_aReferenceIsAnItem() {
        int[] references = {1, 4, 5};
        for (int item : references) {
            int was = rich().item(item, 0);
            taken(item + " to the first", was, x -> x.number(item, 0));
            taken(item + " to the last", was, x -> x.number(item, 5));
            taken(item + " to itself", was, x -> x.number(item, item));
            for (int n : outside(0, 5)) {
                refused(item + " to " + n, BAD, x -> x.number(item, n));
            }
        }
        RefsSettle x = Check.with("w4,1,1;k;k;k;k;k;k;k;k;k;k;k;r0;");
        Check.due("11 of twelve", x.number(11, 11), 0);
        Check.due("12 of twelve", x.number(11, 12), BAD);
        Check.due("what it is", x.item(11, 0), 11);
    }

    static void promise11_ofABreakItIsBad() {
        for (int n = -1; n <= 21; n++) {
            int each = n;
            refused("N " + n, BAD, x -> x.number(3, each));
        }
    }

    static void promise11_nothingElseChanges() {
        String others = " | 2 2 9 4 | 4 1 9 0 | 5 0 9 0 | 1 0 10 0 | 3 4 10 3";
        RefsSettle x = rich();
        Check.same("before", Whole.sheet(x), "sheet 6 5 1 8 34 4 4 | 4 2 8 0" + others);
        x.number(0, 20);
        Check.same("N, and an ACT more", Whole.sheet(x), "sheet 6 5 1 8 34 4 5 | 4 20 8 0" + others);
        x.number(0, 20);
        Check.same("an ACT though it is as it was", Whole.sheet(x), "sheet 6 5 1 8 34 4 6 | 4 20 8 0" + others);
    }

    static void promise12_widthIs4To20() {
        taken("4", 5, x -> x.rule(0, 4));
        taken("20", 5, x -> x.rule(0, 20));
        for (int v : outside(4, 20)) {
            refused("WIDTH " + v, BAD, x -> x.rule(0, v));
        }
    }

    static void promise12_linesAre1To5() {
        taken("1", 1, x -> x.rule(1, 1));
        taken("5", 1, x -> x.rule(1, 5));
        for (int v : outside(1, 5)) {
            refused("LINES " + v, BAD, x -> x.rule(1, v));
        }
    }

    static void promise12_firstIs1To87() {
        taken("1", 8, x -> x.rule(2, 1));
        taken("87", 8, x -> x.rule(2, 87));
        for (int v : outside(1, 87)) {
            refused("FIRST " + v, BAD, x -> x.rule(2, v));
        }
    }

    static void promise12_whichIs0To2() {
        for (int which : outside(0, 2)) {
            refused("which " + which, BAD, x -> x.rule(which, 4));
        }
    }

    static void promise12_stateIsAheadOfBad() {
        refused(Edges::bare, "as told", STATE, x -> x.rule(0, 4));
        refused(Edges::bare, "which 3", STATE, x -> x.rule(3, 4));
        refused(Edges::bare, "WIDTH 3", STATE, x -> x.rule(0, 3));
        refused(RefsSettle::new, "new", STATE, x -> x.rule(-1, -1));
    }

    static void promise12_guessesAndFrozenStay() {
        RefsSettle x = rich();
        x.rule(0, 20);
        x.rule(1, 5);
        x.rule(2, 87);
        Check.same("the law, and three ACTS more", Whole.sheet(x),
            "sheet 6 20 5 87 34 4 7 | 4 2 8 0 | 2 2 9 4 | 4 1 9 0 | 5 0 9 0 | 1 0 10 0 | 3 4 10 3");
        Check.due("it STANDS by it", x.item(0, 4), 87);
    }

    static void promise13_noSheetIsState() {
        refused(Edges::bare, "bare", STATE, x -> x.anew());
        refused(RefsSettle::new, "new", STATE, x -> x.anew());
    }

    static void promise13_howManyWereFrozen() {
        RefsSettle x = Check.with(SHEET);
        Check.due("none", x.anew(), 0);
        Check.due("an ACT all the same", x.count(7), 1);
        x.settle();
        Check.due("two", x.anew(), 2);
        Check.due("none any more", x.anew(), 0);
    }

    static void promise13_guessIsFirstAndFrozenIs0() {
        RefsSettle x = rich();
        x.rule(2, 87);
        x.anew();
        Check.same("all but N and the law", Whole.sheet(x),
            "sheet 6 5 1 87 0 4 6 | 4 2 87 0 | 2 2 87 0 | 4 1 87 0 | 5 0 87 0 | 1 0 87 0 | 3 4 87 0");
    }

    static void promise14_noneIsState() {
        refused(RefsSettle::new, "new", STATE, x -> x.undo());
        refused(Edges::bare, "no SHEET", STATE, x -> x.undo());
        RefsSettle x = Check.with(SHEET);
        Check.due("a SHEET just read", x.undo(), STATE);
        x.round();
        Check.due("one", x.undo(), 0);
        Check.due("no more", x.undo(), STATE);
        Check.same("it stays", Whole.sheet(x), Whole.sheet(Check.with(SHEET)));
    }

    /** FIRST is 1 more by each ACT: it tells how many of them stand. */
    private static RefsSettle withActs(int acts) {
        RefsSettle x = Check.with("w4,1,1;t1;");
        for (int i = 1; i <= acts; i++) {
            x.rule(2, 1 + i);
        }
        return x;
    }

    private static void undone(int acts, int kept) {
        RefsSettle x = withActs(acts);
        Check.due(acts + " ACTS", x.count(7), kept);
        for (int left = kept - 1; left >= 0; left--) {
            Check.due("of " + acts + " can be undone yet", x.undo(), left);
            Check.due("of " + acts + ", FIRST", x.count(4), 1 + acts - kept + left);
        }
        Check.due("of " + acts + ", no more", x.undo(), STATE);
        Check.due("of " + acts + ", FIRST stays", x.count(4), 1 + acts - kept);
    }

    static void promise14_twentyFourAreKept() {
        undone(1, 1);
        undone(23, 23);
        undone(24, 24);
        undone(25, 24);
        undone(26, 24);
        undone(49, 24);
        undone(85, 24);
    }

    static void promise14_behindSomeUndoneOthersAreKept() {
        RefsSettle x = withActs(30);
        for (int i = 0; i < 20; i++) {
            x.undo();
        }
        Check.due("left", x.count(7), 4);
        for (int i = 1; i <= 20; i++) {
            x.rule(2, 50 + i);
            Check.due("kept", x.count(7), 4 + i);
        }
        x.rule(2, 80);
        Check.due("no more than 24", x.count(7), 24);
        for (int left = 23; left >= 0; left--) {
            Check.due("undone", x.undo(), left);
        }
        Check.due("the oldest is forgotten", x.count(4), 8);
    }

    static void promise14_whatIsRefusedIsNoAct() {
        RefsSettle x = Check.with(SHEET);
        x.number(3, 1);
        x.number(0, 21);
        x.rule(0, 21);
        x.feed('w');
        x.sheet();
        x.image(0);
        x.undo();
        Check.due("none", x.count(7), 0);
    }

    static void promise15_itemsThatThereAre() {
        taken("the first", 2, x -> x.item(0, 0));
        taken("the last", 4, x -> x.item(5, 0));
        for (int what = 0; what <= 6; what++) {
            int each = what;
            badBeyondItems((x, item) -> x.item(item, each));
        }
    }

    static void promise15_whatIs0To6() {
        taken("0: N", 2, x -> x.item(0, 0));
        taken("6: COLUMN", 0, x -> x.item(0, 6));
        for (int what : outside(0, 6)) {
            refused("what " + what, BAD, x -> x.item(0, what));
        }
    }

    static void promise15_nOfABreakIs0() {
        taken("N", 0, x -> x.item(3, 0));
        taken("WIDE", 0, x -> x.item(3, 3));
    }

    private static void stands(String text, int[]... due) {
        RefsSettle x = Check.with(text);
        for (int item = 0; item < due.length; item++) {
            for (int what = 0; what < 3; what++) {
                Check.due(text + " ITEM " + item + ", " + "PLC".charAt(what), x.item(item, 4 + what), due[item][what]);
            }
        }
    }

    static void promise15_aLineHasWidthSignsAtMost() {
        stands("w4,2,1;t1;t3;", new int[][] {{1, 0, 0}, {1, 0, 1}});
        stands("w4,2,1;t2;t3;", new int[][] {{1, 0, 0}, {1, 1, 0}});
        stands("w4,2,1;t1;t3;t1;", new int[][] {{1, 0, 0}, {1, 0, 1}, {1, 1, 0}});
        stands("w20,2,1;t19;t1;t1;", new int[][] {{1, 0, 0}, {1, 0, 19}, {1, 1, 0}});
        stands("w20,2,1;t20;t1;", new int[][] {{1, 0, 0}, {1, 1, 0}});
    }

    static void promise15_whatIsWiderThanALineStandsAlone() {
        stands("w4,5,1;t5;t1;", new int[][] {{1, 0, 0}, {1, 1, 0}});
        stands("w4,5,1;t20;t20;t1;t20;", new int[][] {{1, 0, 0}, {1, 1, 0}, {1, 2, 0}, {1, 3, 0}});
        stands("w4,5,87;t1;m0;t1;", new int[][] {{87, 0, 0}, {87, 1, 0}, {87, 2, 0}});
    }

    static void promise15_behindTheLastLineTheNextPage() {
        stands("w4,1,1;t4;t4;", new int[][] {{1, 0, 0}, {2, 0, 0}});
        stands("w4,2,1;t4;t4;t4;t4;t4;", new int[][] {{1, 0, 0}, {1, 1, 0}, {2, 0, 0}, {2, 1, 0}, {3, 0, 0}});
        stands("w4,5,1;t4;t4;t4;t4;t4;t4;",
            new int[][] {{1, 0, 0}, {1, 1, 0}, {1, 2, 0}, {1, 3, 0}, {1, 4, 0}, {2, 0, 0}});
    }

    static void promise15_aBreakStandsWhereOneIs() {
        stands("w4,2,1;k;t1;", new int[][] {{1, 0, 0}, {2, 0, 0}});
        stands("w4,2,1;k;k;k;", new int[][] {{1, 0, 0}, {2, 0, 0}, {3, 0, 0}});
        stands("w4,2,1;t1;k;t1;", new int[][] {{1, 0, 0}, {1, 0, 1}, {2, 0, 0}});
        stands("w4,2,1;t4;k;t1;", new int[][] {{1, 0, 0}, {1, 0, 4}, {2, 0, 0}});
        stands("w4,1,1;t20;k;t1;", new int[][] {{1, 0, 0}, {1, 0, 20}, {2, 0, 0}});
        stands("w4,2,1;t4;t4;k;t1;", new int[][] {{1, 0, 0}, {1, 1, 0}, {1, 1, 4}, {2, 0, 0}});
        stands("w4,5,1;t4;t4;t2;k;t1;t4;",
            new int[][] {{1, 0, 0}, {1, 1, 0}, {1, 2, 0}, {1, 2, 2}, {2, 0, 0}, {2, 1, 0}});
    }

    static void promise15_theLastPageThatThereCanBe() {
        RefsSettle x = Check.with("w4,1,87;k;k;k;k;k;k;k;k;k;k;k;m11;");
        Check.due("PAGE", x.item(11, 4), 98);
        Check.due("GUESS at first", x.item(11, 1), 87);
        x.round();
        Check.due("GUESS", x.item(11, 1), 98);
        Check.same("PRINT", Check.printed(x, 11), "xcviii");
        Check.due("WIDE", x.item(11, 3), 6);
    }

    static void promise15_wideIsFrozenAtLeast() {
        RefsSettle x = Check.with(RING);
        Check.due("by viii, not FROZEN", x.item(1, 3), 4);
        x.round();
        Check.due("by x, not FROZEN", x.item(1, 3), 1);
        x.settle();
        Check.due("by x, FROZEN at 4", x.item(1, 3), 4);
        x.rule(2, 85);
        x.round();
        Check.same("PRINT", Check.printed(x, 1), "lxxxvii");
        Check.due("by lxxxvii, FROZEN at 4", x.item(1, 3), 7);
    }

    static void promise16_referencesAlone() {
        taken("a reference", '8', x -> x.print(4, 0));
        refused("a word", BAD, x -> x.print(0, 0));
        refused("a break", BAD, x -> x.print(3, 0));
        taken("the last", 'f', x -> x.print(5, 2));
        badBeyondItems((x, item) -> x.print(item, 0));
    }

    static void promise16_jIsNotBelow0() {
        refused("-1", BAD, x -> x.print(4, -1));
        refused("at least", BAD, x -> x.print(4, LEAST));
    }

    static void promise16_noneWhereThereAreNotSoMany() {
        taken("the only one", '8', x -> x.print(4, 0));
        refused("behind it", NONE, x -> x.print(4, 1));
        refused("at most", NONE, x -> x.print(4, MOST));
        refused("behind the f", NONE, x -> x.print(5, 3));
    }

    static void promise16_blanksUpToFrozen() {
        RefsSettle x = Check.with(RING);
        x.settle();
        int[] due = {'x', 32, 32, 32, NONE, NONE};
        for (int j = 0; j < due.length; j++) {
            Check.due("sign " + j, x.print(1, j), due[j]);
        }
        x.undo();
        Check.same("without FROZEN", Check.printed(x, 1), "viii");
        x.round();
        Check.same("without FROZEN", Check.printed(x, 1), "x");
    }

    /** Breaks go on from 87, the last FIRST; the three references print the PAGE on which they stand. */
    private static void printed(int page, String roman) {
        int breaks = Math.max(0, page - 87);
        RefsSettle x = Check.with("w20,5," + (page - breaks) + ";" + "k;".repeat(breaks)
            + "r" + breaks + ";m" + breaks + ";f" + breaks + ";");
        x.round();
        String[] due = {"" + page, roman, page + "f"};
        for (int i = 0; i < 3; i++) {
            Check.same("PRINT", Check.printed(x, breaks + i), due[i]);
            Check.due("WIDE of " + due[i], x.item(breaks + i, 3), due[i].length());
        }
    }

    static void promise16_figuresAndRomanNumeralsAtTheirEdges() {
        int[] pages = {1, 3, 4, 5, 6, 8, 9, 10, 11, 14, 19, 39, 40, 41, 44, 49, 50, 51, 87, 88, 89, 90, 91, 94, 96};
        String[] due = {"i", "iii", "iv", "v", "vi", "viii", "ix", "x", "xi", "xiv", "xix", "xxxix", "xl", "xli",
            "xliv", "xlix", "l", "li", "lxxxvii", "lxxxviii", "lxxxix", "xc", "xci", "xciv", "xcvi"};
        for (int i = 0; i < pages.length; i++) {
            printed(pages[i], due[i]);
        }
    }
}

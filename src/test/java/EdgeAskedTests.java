import java.util.function.ToLongFunction;

/** Boundary cases of promises 29 to 34: KINDS, ASKS, and what is counted. */
public final class EdgeAskedTests extends Edges {
    private static final int[] KINDS = {4, 2, 4, 5, 1, 3};
    /** Of each KIND (1 to 5) those that it is, by bits. */
    private static final int[] IS = {0, 1 + 2, 1 + 2 + 4, 1 + 2 + 8, 1 + 16, 1 + 16 + 32};

    public static void main(String[] args) {
        runAll(EdgeAskedTests.class, args);
    }

    private static void refusedBare(String what, long due, ToLongFunction<RefsSettle> call) {
        refused(Edges::bare, what, due, call);
        refused(RefsSettle::new, what + ", new", due, call);
    }

    static void promise29_itemsThatThereAre() {
        for (int item = 0; item < 6; item++) {
            int each = item;
            leaves(Edges::rich, "ITEM " + item, KINDS[item], 3, x -> x.kind(each));
        }
        badBeyondItems((x, item) -> x.kind(item));
    }

    static void promise30_itemsThatThereAre() {
        leaves(Edges::rich, "the first", 0, 0, x -> x.as(0, 0));
        leaves(Edges::rich, "the last", 5, 0, x -> x.as(5, 0));
        badBeyondItems((x, item) -> x.as(item, 0));
    }

    static void promise30_kindsAre0To5() {
        leaves(Edges::rich, "0", 3, 0, x -> x.as(3, 0));
        leaves(Edges::rich, "5", 3, 0, x -> x.as(3, 5));
        for (int kind : outside(0, 5)) {
            refused("KIND " + kind, BAD, x -> x.as(3, kind));
        }
    }

    static void promise30_badIsAheadOfKind() {
        refused("ITEM 6 as a break", BAD, x -> x.as(6, 5));
        refusedBare("no SHEET", BAD, x -> x.as(0, 5));
    }

    static void promise30_noSuchOneIsKind() {
        for (int item = 0; item < 6; item++) {
            for (int kind = 0; kind <= 5; kind++) {
                int one = item;
                int of = kind;
                boolean is = (IS[KINDS[item]] >> kind & 1) == 1;
                leaves(Edges::rich, item + " as " + kind, is ? item : KIND, is ? 0 : 3, x -> x.as(one, of));
            }
        }
    }

    static void promise31_itemsThatThereAre() {
        taken("the first", -98, x -> x.ask(0, 0));
        taken("the last", -982, x -> x.ask(5, 0));
        badBeyondItems((x, item) -> x.ask(item, 0));
    }

    static void promise31_asksAre0And1() {
        taken("SIZE", -98, x -> x.ask(0, 0));
        taken("MARK", 98, x -> x.ask(0, 1));
        for (int what : outside(0, 1)) {
            refused("what " + what, BAD, x -> x.ask(0, what));
        }
    }

    private static void traced(int item, int what, int due, int... bodies) {
        RefsSettle x = rich();
        Check.due("before, the longest", x.trace(5), 20);
        Check.due("ITEM " + item + ", " + what, x.ask(item, what), due);
        for (int i = 0; i < 16; i++) {
            Check.due("ITEM " + item + ", " + what + ", BODY " + i, x.trace(i), i < bodies.length ? bodies[i] : NONE);
        }
        Check.due("status() stays", x.status(), 3);
    }

    /** THE TRACE of the ask before is longer than, or as long as, each of these. */
    static void promise31_theTraceIsEmptyAheadOfIt() {
        traced(0, 0, 2 - 100, 13, 10);
        traced(1, 0, -(4 + 20), 12, 11, 10, 24, 21, 20);
        traced(3, 0, -200, 14, 13, 10);
        traced(4, 0, 1 + 14, 11, 10, 21, 20);
        traced(5, 0, 3 + 15 - 1000, 11, 10, 22, 21, 20);
        traced(0, 1, 0 - (2 - 100), 23, 20, 13, 10);
        traced(1, 1, 2 * (1 + 9), 24, 21, 20);
        traced(3, 1, 3 + 200, 23, 20, 14, 13, 10);
        traced(4, 1, 4 + 10, 21, 20);
        traced(5, 1, 5 + 10 - 1000, 22, 21, 20);
    }

    static void promise31_theSheetStays() {
        RefsSettle x = rich();
        String before = Whole.sheet(x);
        for (int item = 0; item < 6; item++) {
            x.ask(item, 0);
            x.ask(item, 1);
        }
        Check.same("the SHEET", Whole.sheet(x), before);
    }

    static void promise32_noneWhereThereIsNone() {
        refusedBare("before an ask", NONE, x -> x.trace(0));
        int[] none = {-1, 6, 15, 16, 17, LEAST, MOST};
        for (int i : none) {
            refused("place " + i, NONE, x -> x.trace(i));
        }
        taken("the first", 12, x -> x.trace(0));
        taken("the last", 20, x -> x.trace(5));
    }

    static void promise33_whatIs0To8() {
        int[] due = {3, 6, 5, 1, 8, 34, 4, 4, 2};
        for (int what = 0; what <= 8; what++) {
            int each = what;
            leaves(Edges::rich, "what " + what, due[what], 3, x -> x.count(each));
        }
        for (int what : outside(0, 8)) {
            refused("what " + what, BAD, x -> x.count(what));
            refusedBare("what " + what, BAD, x -> x.count(what));
        }
    }

    static void promise33_withoutASheet() {
        int[] due = {3, 0, 0, 0, 0, 0, 0, 0, 2};
        for (int what = 0; what <= 8; what++) {
            int each = what;
            leaves(Edges::bare, "what " + what, due[what], 1, x -> x.count(each));
        }
    }

    static void promise33_upToTheLimits() {
        RefsSettle x = new RefsSettle();
        for (int row = 0; row <= 7; row++) {
            Check.due("ROWS", x.count(0), row);
            x.row(row, 0, 0);
        }
        Check.due("all ROWS", x.count(0), 8);
        Check.read(x, "w20,5,87;m1;m2;m3;m4;m5;m6;m7;m8;m9;m10;m11;m0;");
        int[] due = {8, 12, 20, 5, 87, 0, 0, 0, 0};
        for (int what = 0; what <= 8; what++) {
            Check.due("what " + what, x.count(what), due[what]);
        }
        for (int i = 0; i < 80; i++) {
            x.feed('w');
        }
        Check.due("bytes", x.count(8), 80);
        for (int i = 1; i <= 25; i++) {
            x.rule(1, 5);
            Check.due("ACTS", x.count(7), Math.min(24, i));
        }
    }

    static void promise33_frozenHasABitForEachItem() {
        RefsSettle x = Check.with("w4,1,8;m1;t1;k;k;k;k;k;k;k;k;k;m1;");
        x.settle();
        Check.due("the first and the last", x.count(5), 1 + 2048);
        x.anew();
        Check.due("none", x.count(5), 0);
    }

    static void promise34_noneAtFirst() {
        Check.due("new", new RefsSettle().status(), 0);
        Check.due("a SHEET", Check.with(SHEET).status(), 0);
    }

    static void promise34_theNumberOfEachFinding() {
        taken("1 NULL", 1, x -> { x.drop(7); return x.status(); });
        taken("2 PLACE", 2, x -> { x.set(0, 2, 0); return x.status(); });
        taken("3 KIND", 3, x -> { x.drop(7); x.as(0, 5); return x.status(); });
        taken("4 SIZE", 4, x -> { x.row(0, 0, -1); return x.status(); });
        taken("5 STORE", 5, x -> { x.copy(0, 0, 1, 0, 1); return x.status(); });
    }

    static void promise34_a0ByEachCallThatHadNone() {
        taken("row", 0, x -> { x.row(0, 0, 1); return x.status(); });
        taken("set", 0, x -> { x.set(0, 0, 1); return x.status(); });
        taken("copy", 0, x -> { x.copy(0, 0, 0, 1, 1); return x.status(); });
        taken("drop", 0, x -> { x.drop(0); return x.status(); });
        taken("as", 0, x -> { x.as(0, 4); return x.status(); });
        for (int what = 0; what <= 3; what++) {
            int each = what;
            taken("fits " + what, 0, x -> { x.fits(0, 0, 0, 1, each); return x.status(); });
        }
    }

    /** Those that answer NONE, or nothing at all, had no FINDING either. */
    static void promise34_noneIsNoFinding() {
        taken("fits NONE", 0, x -> { Check.due("NONE", x.fits(2, 1, 1, 1, 3), NONE); return x.status(); });
        taken("copy of none", 0, x -> { x.copy(0, 2, 0, 2, 0); return x.status(); });
    }

    static void promise34_whatIsRefusedDoesNotCount() {
        refused("row", BAD, x -> x.row(8, 0, 0));
        refused("set", BAD, x -> x.set(8, 0, 0));
        refused("copy", BAD, x -> x.copy(8, 0, 0, 0, 0));
        refused("drop", BAD, x -> x.drop(8));
        refused("fits", BAD, x -> x.fits(0, 8, 0, 1, 0));
        refused("as", BAD, x -> x.as(0, 6));
    }

    static void promise34_otherCallsDoNotCount() {
        RefsSettle x = rich();
        x.feed('w');
        x.sheet();
        x.fault();
        x.round();
        x.settle();
        x.number(0, 1);
        x.rule(0, 4);
        x.anew();
        x.undo();
        x.item(0, 0);
        x.print(1, 0);
        x.behind(0, 0);
        x.lies();
        x.settled(0);
        x.ends(0);
        x.moves(0);
        x.room(0);
        x.restless();
        x.chance(0, 0);
        x.drawn(1, 1, 0);
        x.image(0);
        x.restore(0);
        x.kind(0);
        x.ask(0, 0);
        x.trace(0);
        x.count(0);
        Check.due("KIND yet", x.status(), 3);
        Check.due("asked again", x.status(), 3);
        Check.read(x, SHEET);
        Check.due("behind another SHEET", x.status(), 3);
    }
}

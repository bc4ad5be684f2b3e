/** Promises 29 to 32: kinds, taking an item as one of a kind, and asks with their trace. */
public final class AskedTests {
    private static final int NONE = RefsSettle.NONE, BAD = RefsSettle.BAD, KIND = -1000013;
    /** All on page 9: they are 3, 1, 2, 2 and 0 wide. */
    private static final String KINDS = "w20,5,9;t3;r0;m0;f0;k;";

    public static void main(String[] args) {
        kind();
        as();
        sizes();
        marks();
        asksOfNow();
        trace();
        Check.end();
    }

    private static void kind() {
        Check.due("29: no SHEET", new RefsSettle().kind(0), BAD);
        RefsSettle x = Check.with(KINDS);
        int[] due = {4, 1, 2, 3, 5};
        for (int i = 0; i < 5; i++) {
            Check.due("29: " + i, x.kind(i), due[i]);
        }
        Check.due("29: -1", x.kind(-1), BAD);
        Check.due("29: 5", x.kind(5), BAD);
    }

    private static void as() {
        Check.due("30: no SHEET", new RefsSettle().as(0, 0), BAD);
        RefsSettle x = Check.with(KINDS);
        int[] kinds = {1 + 16, 1 + 2, 1 + 2 + 4, 1 + 2 + 8, 1 + 16 + 32};
        for (int i = 0; i < 5; i++) {
            for (int kind = 0; kind <= 5; kind++) {
                boolean is = (kinds[i] >> kind & 1) == 1;
                Check.due("30: " + i + " as " + kind, x.as(i, kind), is ? i : KIND);
                Check.due("34: " + i + " as " + kind, x.status(), is ? 0 : 3);
            }
        }
        Check.due("30: KIND -1", x.as(0, -1), BAD);
        Check.due("30: KIND 6", x.as(0, 6), BAD);
        Check.due("30: ITEM -1", x.as(-1, 0), BAD);
        Check.due("30: ITEM 5", x.as(5, 0), BAD);
    }

    private static void ask(RefsSettle x, int item, int what, int due, int... bodies) {
        String told = "31: " + (what == 0 ? "SIZE" : "MARK") + " of " + item;
        Check.due(told, x.ask(item, what), due);
        for (int i = 0; i < bodies.length; i++) {
            Check.due(told + ", BODY " + i, x.trace(i), bodies[i]);
        }
        Check.due(told + ", no BODY more", x.trace(bodies.length), NONE);
    }

    private static void sizes() {
        RefsSettle x = Check.with(KINDS);
        ask(x, 0, 0, -97, 13, 10);
        ask(x, 1, 0, 11, 11, 10, 21, 20);
        ask(x, 2, 0, -24, 12, 11, 10, 24, 21, 20);
        ask(x, 3, 0, -986, 11, 10, 22, 21, 20);
        ask(x, 4, 0, -200, 14, 13, 10);
    }

    private static void marks() {
        RefsSettle x = Check.with(KINDS);
        ask(x, 0, 1, 97, 23, 20, 13, 10);
        ask(x, 1, 1, 10, 21, 20);
        ask(x, 2, 1, 22, 24, 21, 20);
        ask(x, 3, 1, -988, 22, 21, 20);
        ask(x, 4, 1, 204, 23, 20, 14, 13, 10);
    }

    /** By the GUESS of the reference itself, and FROZEN as it is. */
    private static void asksOfNow() {
        RefsSettle x = Check.with("w4,1,8;t1;m2;t1;");
        x.settle();
        ask(x, 1, 1, 20, 24, 21, 20);
        ask(x, 1, 0, -24, 12, 11, 10, 24, 21, 20);
        x.number(0, 7);
        ask(x, 0, 0, -93, 13, 10);
    }

    private static void trace() {
        Check.due("31: no SHEET", new RefsSettle().ask(0, 0), BAD);
        Check.due("32: empty", new RefsSettle().trace(0), NONE);
        RefsSettle x = Check.with(KINDS);
        x.ask(2, 0);
        int[][] bad = {{-1, 0}, {5, 0}, {0, -1}, {0, 2}};
        for (int[] b : bad) {
            Check.due("31: BAD", x.ask(b[0], b[1]), BAD);
        }
        Check.due("31: BAD leaves THE TRACE", x.trace(5), 20);
        int[] none = {-1, 6, 16, Integer.MIN_VALUE, Integer.MAX_VALUE};
        for (int i : none) {
            Check.due("32: " + i, x.trace(i), NONE);
        }
        x.ask(1, 1);
        Check.due("32: anew", x.trace(0), 21);
        Check.due("32: its end", x.trace(2), NONE);
    }
}

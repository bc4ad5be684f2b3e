import java.lang.reflect.InvocationTargetException;
import java.lang.reflect.Method;
import java.util.ArrayList;
import java.util.List;
import java.util.function.Supplier;
import java.util.function.ToLongBiFunction;
import java.util.function.ToLongFunction;

/** What the tests of boundary cases share: each is a method named by its promise, on objects of its own. */
abstract class Edges {
    static final int NONE = RefsSettle.NONE, BAD = RefsSettle.BAD, STATE = RefsSettle.STATE, FULL = RefsSettle.FULL;
    static final int NULL = -1000011, PLACE = -1000012, KIND = -1000013, SIZE = -1000014, STORE = -1000015;
    static final int LEAST = Integer.MIN_VALUE, MOST = Integer.MAX_VALUE;

    /** Its Roman one is 4 wide by page 8 and moves all on to 10; it is 1 wide by 10 and all stand on 8. */
    static final String RING = "w4,1,8;t1;m2;t1;";
    /** The same, and one ITEM of each KIND; settled, m2 is FROZEN at 4 and f4 at 3. */
    static final String SHEET = "w4,1,8;t1;m2;t1;k;r0;f4;";
    /** Takes 54 ROUNDS to settle: with less, 9999 of them cannot be come to within 512 calls. */
    static final String LONG = "w4,1,2;r2;m8;f10;m3;m7;m7;m10;m9;r10;r8;m11;r9;";

    /** Runs all tests of a class, or those whose names begin as the first word of the command says. */
    static void runAll(Class<?> tests, String[] words) {
        String begin = words.length > 0 ? words[0] : "promise";
        Check.due("tests named " + begin, begin.startsWith("promise") && !testsOf(tests, begin).isEmpty() ? 1 : 0, 1);
        failing(tests, begin);
        Check.end();
    }

    /** Runs the tests of a class whose names begin so: the names of those that fail. */
    static List<String> failing(Class<?> tests, String begin) {
        List<String> names = new ArrayList<>();
        for (Method test : testsOf(tests, begin)) {
            int before = Check.wrong();
            Check.test = test.getName();
            try {
                test.invoke(null);
            } catch (InvocationTargetException | IllegalAccessException e) {
                Check.due(String.valueOf(e.getCause()), 1, 0);
            }
            if (Check.wrong() > before) {
                names.add(test.getName());
            }
        }
        return names;
    }

    static List<String> failingQuietly(Class<?> tests, String begin) {
        Check.quiet = true;
        return failing(tests, begin);
    }

    static List<Method> testsOf(Class<?> tests, String begin) {
        List<Method> all = new ArrayList<>();
        for (Method method : tests.getDeclaredMethods()) {
            if (method.getName().startsWith(begin)) {
                all.add(method);
            }
        }
        all.sort((a, b) -> a.getName().compareTo(b.getName()));
        return all;
    }

    /** The first that are not allowed on both sides, and the last that there are. */
    static int[] outside(int least, int most) {
        return new int[] {least - 1, most + 1, LEAST, MOST};
    }

    /** ROWS, bytes on the tape, a FAULT and a FINDING, but no SHEET. */
    static RefsSettle bare() {
        RefsSettle x = new RefsSettle();
        Check.read(x, "w3");
        x.row(0, 0, 2);
        x.set(0, 0, 11);
        x.set(0, 1, 12);
        x.row(1, 1, 2);
        x.set(1, 0, 13);
        x.row(2, 0, 0);
        x.feed('w');
        x.feed('4');
        x.drop(7);
        return x;
    }

    /** Of everything something: a SHEET, FROZEN, ACTS, both IMAGES, THE TRACE too. */
    static RefsSettle rich() {
        RefsSettle x = richBehind("w3");
        x.feed('w');
        x.feed('4');
        return x;
    }

    /** As rich(), with an empty tape, and the FAULT of this text. */
    static RefsSettle richBehind(String faulty) {
        RefsSettle x = new RefsSettle();
        Check.read(x, faulty);
        Check.read(x, SHEET);
        x.image(0);
        x.settle();
        x.image(1);
        x.number(0, 2);
        x.rule(0, 5);
        x.round();
        x.ask(1, 0);
        x.row(0, 0, 2);
        x.set(0, 0, 11);
        x.set(0, 1, 12);
        x.row(1, 1, 2);
        x.set(1, 0, 13);
        x.row(2, 0, 0);
        x.as(0, 5);
        return x;
    }

    /** One ITEM; of the SHEET before there were a reference and a word more. */
    static RefsSettle shorter() {
        RefsSettle x = Check.with("w4,1,1;k;r0;t1;");
        Check.read(x, "w4,1,1;k;");
        return x;
    }

    /** A call of an ITEM is BAD for those that there are not, of a SHEET or of none. */
    static void badBeyondItems(ToLongBiFunction<RefsSettle, Integer> call) {
        for (int item : outside(0, 5)) {
            refused("ITEM " + item, BAD, x -> call.applyAsLong(x, item));
        }
        refused(Edges::shorter, "a reference of the SHEET before", BAD, x -> call.applyAsLong(x, 1));
        refused(Edges::shorter, "a word of the SHEET before", BAD, x -> call.applyAsLong(x, 2));
        refused(Edges::bare, "no SHEET", BAD, x -> call.applyAsLong(x, 0));
        refused(RefsSettle::new, "new", BAD, x -> call.applyAsLong(x, 0));
    }

    /** The answer, and that nothing changes by the call but status(), and that by a FINDING alone. */
    static void refused(Supplier<RefsSettle> made, String what, long due, ToLongFunction<RefsSettle> call) {
        boolean found = due <= NULL && due >= STORE;
        leaves(made, what, due, found ? (int) (-1000010 - due) : made.get().status(), call);
    }

    static void refused(String what, long due, ToLongFunction<RefsSettle> call) {
        refused(Edges::rich, what, due, call);
    }

    /** The answer, status() behind it, and that all else is as without the call. */
    static void leaves(Supplier<RefsSettle> made, String what, long due, int status, ToLongFunction<RefsSettle> call) {
        RefsSettle called = made.get();
        RefsSettle left = made.get();
        Check.due(what, call.applyAsLong(called), due);
        Check.due(what + ", status()", called.status(), status);
        Check.same(what + ", all else", Whole.of(called), Whole.of(left));
    }

    static void taken(Supplier<RefsSettle> made, String what, long due, ToLongFunction<RefsSettle> call) {
        Check.due(what, call.applyAsLong(made.get()), due);
    }

    static void taken(String what, long due, ToLongFunction<RefsSettle> call) {
        taken(Edges::rich, what, due, call);
    }

    /** ITEM 0 is no break behind another: it always STANDS on FIRST, and tells a ROW's value of 1 to 87. */
    static int value(RefsSettle x, int row, int i) {
        return x.fits(0, row, i, 1, 3);
    }

    static void values(RefsSettle x, int row, int... due) {
        for (int i = 0; i < due.length; i++) {
            Check.due("ROW " + row + ", ITEM " + i, value(x, row, i), due[i]);
        }
    }

    static void fill(RefsSettle x, int row, int lane, int... values) {
        x.row(row, lane, values.length);
        for (int i = 0; i < values.length; i++) {
            x.set(row, i, values[i]);
        }
    }
}

/** Counts and prints the answers that are not as due. */
final class Check {
    /** The name of the test that runs, if it has one of its own. */
    static String test = "";
    /** Where wrong answers are awaited, they are counted only. */
    static boolean quiet = false;

    private static int wrong = 0;
    private static int looked = 0;

    private Check() {
    }

    static void due(String what, long got, long want) {
        looked++;
        if (got != want) {
            wrong++;
            print(what + " answered " + got + ", due is " + want);
        }
    }

    private static void print(String line) {
        if (!quiet && wrong <= 40) {
            System.out.println(test.isEmpty() ? line : test + ": " + line);
        }
    }

    static int wrong() {
        return wrong;
    }

    static boolean isClean() {
        return wrong == 0;
    }

    static void end() {
        System.out.println(looked + " answers looked at, " + wrong + " not as due");
        if (wrong != 0) {
            System.exit(1);
        }
    }

    /** A new object with this SHEET. */
    static RefsSettle with(String text) {
        RefsSettle x = new RefsSettle();
        due("sheet of " + text, read(x, text) >= 1 ? 1 : 0, 1);
        return x;
    }

    static int read(RefsSettle x, String text) {
        for (int i = 0; i < text.length(); i++) {
            x.feed(text.charAt(i));
        }
        return x.sheet();
    }

    /** What a reference prints, blanks and all. */
    static String printed(RefsSettle x, int item) {
        StringBuilder text = new StringBuilder();
        for (int j = 0; j < 40 && x.print(item, j) != RefsSettle.NONE; j++) {
            text.append((char) x.print(item, j));
        }
        return text.toString();
    }

    static void same(String what, String got, String want) {
        looked++;
        if (!got.equals(want)) {
            wrong++;
            print(what + " is '" + got + "', due is '" + want + "'");
        }
    }
}

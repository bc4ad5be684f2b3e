/** Counts and prints the answers that are not as due. */
final class Check {
    private static int wrong = 0;
    private static int looked = 0;

    private Check() {
    }

    static void due(String what, long got, long want) {
        looked++;
        if (got != want) {
            wrong++;
            if (wrong <= 40) {
                System.out.println(what + " answered " + got + ", due is " + want);
            }
        }
    }

    static boolean isClean() {
        return wrong == 0;
    }

    static void end() {
        System.out.println(looked + " answers looked at, " + wrong + " not as due");
        if (wrong != 0) {
            System.exit(1);
        }
    }

    /** A new object with this SHEET. */
    static RefsSettle with(String text) {
        RefsSettle x = new RefsSettle();
        due("sheet of " + text, read(x, text) >= 1 ? 1 : 0, 1);
        return x;
    }

    static int read(RefsSettle x, String text) {
        for (int i = 0; i < text.length(); i++) {
            x.feed(text.charAt(i));
        }
        return x.sheet();
    }

    /** What a reference prints, blanks and all. */
    static String printed(RefsSettle x, int item) {
        StringBuilder text = new StringBuilder();
        for (int j = 0; j < 40 && x.print(item, j) != RefsSettle.NONE; j++) {
            text.append((char) x.print(item, j));
        }
        return text.toString();
    }

    static void same(String what, String got, String want) {
        if (!got.equals(want)) {
            System.out.println(what + " is '" + got + "', due is '" + want + "'");
        }
        due(what, got.equals(want) ? 1 : 0, 1);
    }
}

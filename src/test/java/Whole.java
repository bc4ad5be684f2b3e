/** All of an object that can be seen but status(); looking undoes, restores and reads until nothing is left. */
final class Whole {
    private Whole() {
    }

    static String of(RefsSettle x) {
        StringBuilder all = new StringBuilder();
        all.append("fault ").append(x.fault()).append(", trace");
        for (int i = 0; i < 7; i++) {
            all.append(' ').append(x.trace(i));
        }
        all.append(", rows ").append(x.count(0)).append(", bytes ").append(x.count(8)).append(", ");
        all.append(sheet(x));
        for (int acts = x.count(7); acts > 0; acts--) {
            all.append("\n  undone ").append(x.undo()).append(": ").append(sheet(x));
        }
        for (int k = 0; k < 2; k++) {
            all.append("\n  image ").append(x.restore(k)).append(": ").append(sheet(x));
        }
        all.append("\n  tape ").append(x.sheet()).append(' ').append(x.fault());
        return all.append(rows(x)).toString();
    }

    /** The SHEET alone, and how many ACTS can be undone. */
    static String sheet(RefsSettle x) {
        StringBuilder all = new StringBuilder("sheet");
        for (int what = 1; what <= 7; what++) {
            all.append(' ').append(x.count(what));
        }
        for (int item = 0; item < x.count(1); item++) {
            all.append(" | ").append(x.kind(item));
            for (int what = 0; what <= 2; what++) {
                all.append(' ').append(x.item(item, what));
            }
        }
        return all.toString();
    }

    /** Values of 1 to 87, by a word that always STANDS on FIRST; the LANE by how 70000 is cut. */
    private static String rows(RefsSettle x) {
        StringBuilder all = new StringBuilder();
        Check.read(x, "w4,1,1;t1;");
        for (int row = 0; row < 8; row++) {
            all.append("\n  row ").append(row).append(':');
            for (int i = 0; i < 40 && x.fits(0, row, i, 1, 3) >= RefsSettle.NONE; i++) {
                all.append(' ').append(x.fits(0, row, i, 1, 3));
            }
            all.append(" lane ").append(x.set(row, 0, 70000)).append(" size ").append(x.drop(row));
        }
        return all.toString();
    }
}

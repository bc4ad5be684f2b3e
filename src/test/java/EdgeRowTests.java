/** Boundary cases of promises 1 to 5: a new object, and ROWS. */
public final class EdgeRowTests extends Edges {
    public static void main(String[] args) {
        runAll(EdgeRowTests.class, args);
    }

    static void promise01_nothingIsThereAtFirst() {
        RefsSettle x = new RefsSettle();
        for (int what = 0; what <= 8; what++) {
            Check.due("count " + what, x.count(what), 0);
        }
        Check.due("fault", x.fault(), 0);
        Check.due("status", x.status(), 0);
        Check.due("trace", x.trace(0), NONE);
        Check.due("no ITEM", x.kind(0), BAD);
        Check.due("no SHEET", x.round(), STATE);
        Check.due("no ACT", x.undo(), STATE);
        Check.due("no IMAGE 0", x.restore(0), STATE);
        Check.due("no IMAGE 1", x.restore(1), STATE);
    }

    static void promise01_allRowsAreMissingAtFirst() {
        for (int row = 0; row <= 7; row++) {
            int each = row;
            refused(RefsSettle::new, "ROW " + row, NULL, x -> x.drop(each));
        }
    }

    static void promise02_rowsAre0To7() {
        taken("the first", 1, x -> x.row(0, 0, 1));
        taken("the last", 1, x -> x.row(7, 0, 1));
        for (int row : outside(0, 7)) {
            refused("ROW " + row, BAD, x -> x.row(row, 0, 1));
        }
    }

    static void promise02_lanesAre0To2() {
        taken("bytes", 1, x -> x.row(0, 0, 1));
        taken("ints", 1, x -> x.row(0, 2, 1));
        for (int lane : outside(0, 2)) {
            refused("LANE " + lane, BAD, x -> x.row(0, lane, 1));
        }
    }

    static void promise02_itemsAre40AtMost() {
        RefsSettle x = rich();
        Check.due("40", x.row(3, 0, 40), 40);
        Check.due("the last ITEM", x.set(3, 39, 5), 5);
        Check.due("it is kept", value(x, 3, 39), 5);
        Check.due("none behind it", x.set(3, 40, 5), PLACE);
        Check.due("how many it had", x.drop(3), 40);
        refused("41", BAD, y -> y.row(0, 0, 41));
        refused("at most", BAD, y -> y.row(0, 0, MOST));
    }

    static void promise02_aRowOfNone() {
        RefsSettle x = rich();
        Check.due("none", x.row(3, 0, 0), 0);
        Check.due("it is not missing", x.count(0), 4);
        Check.due("it has no ITEM", x.set(3, 0, 1), PLACE);
        Check.due("how many it had", x.drop(3), 0);
    }

    static void promise02_fewerThanNoneIsSize() {
        refused("-1", SIZE, x -> x.row(0, 2, -1));
        refused("at least", SIZE, x -> x.row(0, 2, LEAST));
        refused("of a ROW that is missing", SIZE, x -> x.row(7, 2, -1));
        refused(RefsSettle::new, "of a new object", SIZE, x -> x.row(0, 0, -1));
    }

    static void promise02_badIsAheadOfSize() {
        refused("ROW 8", BAD, x -> x.row(8, 0, -1));
        refused("LANE 3", BAD, x -> x.row(0, 3, -1));
    }

    static void promise02_inPlaceOfWhatIsThere() {
        RefsSettle x = rich();
        fill(x, 3, 1, 21, 22, 23);
        Check.due("a shorter one", x.row(3, 2, 2), 2);
        values(x, 3, NONE, NONE);
        Check.due("its end", x.set(3, 2, 1), PLACE);
        Check.due("its LANE", x.set(3, 1, 70000), 70000);
        Check.due("a longer one", x.row(3, 0, 4), 4);
        values(x, 3, NONE, NONE, NONE, NONE);
        Check.due("its LANE", x.set(3, 3, 70000), 112);
        Check.due("as many ROWS", x.count(0), 4);
        values(x, 0, 11, 12);
    }

    static void promise02_behindADropItIsOf0() {
        RefsSettle x = rich();
        x.drop(0);
        Check.due("anew", x.row(0, 0, 3), 3);
        values(x, 0, NONE, NONE, NONE);
    }

    static void promise03_rowsAre0To7() {
        taken("the first", 5, x -> x.set(0, 0, 5));
        for (int row : outside(0, 7)) {
            refused("ROW " + row, BAD, x -> x.set(row, 0, 5));
        }
        RefsSettle x = rich();
        x.row(7, 0, 1);
        Check.due("the last", x.set(7, 0, 5), 5);
    }

    static void promise03_aRowThatIsMissingIsNull() {
        refused("never made", NULL, x -> x.set(7, 0, 5));
        RefsSettle x = rich();
        x.drop(0);
        Check.due("dropped", x.set(0, 0, 5), NULL);
    }

    static void promise03_nullIsAheadOfPlace() {
        refused("place -1", NULL, x -> x.set(7, -1, 5));
        refused("place 40", NULL, x -> x.set(7, 40, 5));
    }

    static void promise03_placesEndWhereTheRowDoes() {
        taken("the first", 5, x -> x.set(0, 0, 5));
        taken("the last", 5, x -> x.set(0, 1, 5));
        for (int i : outside(0, 1)) {
            refused("place " + i, PLACE, x -> x.set(0, i, 5));
        }
        refused("of a ROW of none", PLACE, x -> x.set(2, 0, 5));
    }

    static void promise03_thatItemAloneChanges() {
        RefsSettle x = rich();
        fill(x, 3, 2, 21, 22, 23);
        x.set(3, 1, 5);
        values(x, 3, 21, 5, 23);
        values(x, 0, 11, 12);
    }

    private static void cut(int lane, int v, int due) {
        RefsSettle x = rich();
        x.row(3, lane, 1);
        Check.due(v + " in LANE " + lane, x.set(3, 0, v), due);
        Check.due(v + " is kept so", value(x, 3, 0), due >= 1 && due <= 87 ? due : NONE);
    }

    static void promise03_bytesAreCutToEightBits() {
        int[][] pairs = {{127, 127}, {128, -128}, {-128, -128}, {-129, 127}, {255, -1}, {256, 0}, {-255, 1},
            {256 + 87, 87}, {-256 + 87, 87}, {LEAST, 0}, {MOST, -1}};
        for (int[] pair : pairs) {
            cut(0, pair[0], pair[1]);
        }
    }

    static void promise03_shortsAreCutToSixteenBits() {
        int[][] pairs = {{32767, 32767}, {32768, -32768}, {-32768, -32768}, {-32769, 32767}, {65535, -1}, {65536, 0},
            {65536 + 87, 87}, {-65536 + 87, 87}, {256 + 87, 343}, {LEAST, 0}, {MOST, -1}};
        for (int[] pair : pairs) {
            cut(1, pair[0], pair[1]);
        }
    }

    static void promise03_intsAreNotCut() {
        int[] all = {0, -1, 87, 65536 + 87, LEAST, MOST};
        for (int v : all) {
            cut(2, v, v);
        }
    }

    static void promise04_rowsAre0To7() {
        for (int row : outside(0, 7)) {
            refused("from ROW " + row, BAD, x -> x.copy(row, 0, 0, 0, 1));
            refused("to ROW " + row, BAD, x -> x.copy(0, 0, row, 0, 1));
        }
        RefsSettle x = rich();
        fill(x, 7, 0, 21, 22);
        Check.due("from the last to the first", x.copy(7, 0, 0, 0, 1), 1);
        values(x, 0, 21, 12);
        Check.due("from the first to the last", x.copy(0, 1, 7, 1, 1), 1);
        values(x, 7, 21, 12);
    }

    static void promise04_aRowThatIsMissingIsNull() {
        refused("the one", NULL, x -> x.copy(7, 0, 0, 0, 1));
        refused("the other", NULL, x -> x.copy(0, 0, 7, 0, 1));
        refused("both", NULL, x -> x.copy(7, 0, 7, 0, 1));
        refused("none of it", NULL, x -> x.copy(7, 0, 7, 0, 0));
    }

    static void promise04_badIsAheadOfNull() {
        refused("from what is missing", BAD, x -> x.copy(7, 0, 8, 0, 1));
        refused("to what is missing", BAD, x -> x.copy(-1, 0, 7, 0, 1));
    }

    static void promise04_nullIsAheadOfPlace() {
        refused("from what is missing", NULL, x -> x.copy(7, -1, 0, -1, -1));
        refused("to what is missing", NULL, x -> x.copy(0, -1, 7, -1, -1));
    }

    static void promise04_twoLanesAreStore() {
        for (int a = 0; a <= 2; a++) {
            for (int b = 0; b <= 2; b++) {
                RefsSettle x = rich();
                fill(x, 3, a, 21, 22);
                fill(x, 4, b, 31, 32);
                Check.due(a + " to " + b, x.copy(3, 0, 4, 0, 2), a == b ? 2 : STORE);
                values(x, 4, a == b ? 21 : 31, a == b ? 22 : 32);
            }
        }
        refused("bytes to shorts", STORE, x -> x.copy(0, 0, 1, 0, 1));
        refused("none of them", STORE, x -> x.copy(0, 0, 1, 0, 0));
    }

    static void promise04_storeIsAheadOfPlace() {
        refused("i -1", STORE, x -> x.copy(0, -1, 1, 0, 1));
        refused("j -1", STORE, x -> x.copy(0, 0, 1, -1, 1));
        refused("n -1", STORE, x -> x.copy(0, 0, 1, 0, -1));
        refused("beyond both ends", STORE, x -> x.copy(0, 2, 1, 2, 1));
    }

    /** ROW 3 has 3 ITEMS, ROW 4 has 2, of one LANE. */
    private static RefsSettle two() {
        RefsSettle x = rich();
        fill(x, 3, 2, 21, 22, 23);
        fill(x, 4, 2, 31, 32);
        return x;
    }

    static void promise04_belowNoneIsPlace() {
        int[] below = {-1, LEAST};
        for (int v : below) {
            refused(EdgeRowTests::two, "i " + v, PLACE, x -> x.copy(3, v, 4, 0, 1));
            refused(EdgeRowTests::two, "j " + v, PLACE, x -> x.copy(3, 0, 4, v, 1));
            refused(EdgeRowTests::two, "n " + v, PLACE, x -> x.copy(3, 0, 4, 0, v));
            refused(EdgeRowTests::two, "i " + v + " of none", PLACE, x -> x.copy(3, v, 4, 0, 0));
            refused(EdgeRowTests::two, "j " + v + " of none", PLACE, x -> x.copy(3, 0, 4, v, 0));
        }
    }

    static void promise04_beyondAnEndIsPlace() {
        taken(EdgeRowTests::two, "up to both ends", 2, x -> x.copy(3, 1, 4, 0, 2));
        refused(EdgeRowTests::two, "beyond the one's", PLACE, x -> x.copy(3, 2, 4, 0, 2));
        refused(EdgeRowTests::two, "beyond the other's", PLACE, x -> x.copy(3, 0, 4, 1, 2));
        refused(EdgeRowTests::two, "more than the other has", PLACE, x -> x.copy(3, 0, 4, 0, 3));
        refused(EdgeRowTests::two, "more than the one has", PLACE, x -> x.copy(4, 0, 3, 0, 3));
        refused(EdgeRowTests::two, "within itself", PLACE, x -> x.copy(3, 0, 3, 1, 3));
    }

    static void promise04_noneAtTheEnds() {
        taken(EdgeRowTests::two, "at both ends", 0, x -> x.copy(3, 3, 4, 2, 0));
        refused(EdgeRowTests::two, "behind the one's", PLACE, x -> x.copy(3, 4, 4, 2, 0));
        refused(EdgeRowTests::two, "behind the other's", PLACE, x -> x.copy(3, 3, 4, 3, 0));
        refused(EdgeRowTests::two, "at most", PLACE, x -> x.copy(3, MOST, 4, 0, 0));
        taken("of ROWS of none", 0, x -> x.copy(2, 0, 2, 0, 0));
        refused("one of none", PLACE, x -> x.copy(2, 0, 0, 0, 1));
    }

    static void promise04_sumsThatWrapAroundArePlace() {
        refused(EdgeRowTests::two, "i and n at most", PLACE, x -> x.copy(3, MOST, 4, 0, MOST));
        refused(EdgeRowTests::two, "1 and n at most", PLACE, x -> x.copy(3, 1, 4, 0, MOST));
        refused(EdgeRowTests::two, "1 and n at most, of both", PLACE, x -> x.copy(3, 1, 4, 1, MOST));
        refused(EdgeRowTests::two, "j and n at most", PLACE, x -> x.copy(3, 0, 4, MOST, MOST));
        refused(EdgeRowTests::two, "i at most and 1", PLACE, x -> x.copy(3, MOST, 4, 0, 1));
        refused(EdgeRowTests::two, "j at most and 1", PLACE, x -> x.copy(3, 0, 4, MOST, 1));
    }

    static void promise04_fortyAtOnce() {
        RefsSettle x = rich();
        x.row(3, 0, 40);
        x.set(3, 0, 21);
        x.set(3, 39, 22);
        x.row(4, 0, 40);
        Check.due("all", x.copy(3, 0, 4, 0, 40), 40);
        Check.due("the first", value(x, 4, 0), 21);
        Check.due("the last", value(x, 4, 39), 22);
        Check.due("one more", x.copy(3, 0, 4, 0, 41), PLACE);
    }

    static void promise04_asTheyWereAhead() {
        RefsSettle up = two();
        Check.due("up", up.copy(3, 0, 3, 1, 2), 2);
        values(up, 3, 21, 21, 22);
        RefsSettle down = two();
        Check.due("down", down.copy(3, 1, 3, 0, 2), 2);
        values(down, 3, 22, 23, 23);
        RefsSettle still = two();
        Check.due("to where it is", still.copy(3, 0, 3, 0, 3), 3);
        values(still, 3, 21, 22, 23);
    }

    static void promise05_rowsAre0To7() {
        taken("the first", 2, x -> x.drop(0));
        for (int row : outside(0, 7)) {
            refused("ROW " + row, BAD, x -> x.drop(row));
        }
        RefsSettle x = rich();
        x.row(7, 0, 5);
        Check.due("the last", x.drop(7), 5);
    }

    static void promise05_howManyItHad() {
        RefsSettle x = rich();
        x.row(3, 0, 40);
        Check.due("40", x.drop(3), 40);
        Check.due("none", x.drop(2), 0);
    }

    static void promise05_aRowThatIsMissingIsNull() {
        refused("never made", NULL, x -> x.drop(7));
        RefsSettle x = rich();
        x.drop(0);
        Check.due("again", x.drop(0), NULL);
        Check.due("a call with it", x.copy(0, 0, 0, 0, 0), NULL);
        Check.due("the others stay", x.count(0), 2);
    }
}

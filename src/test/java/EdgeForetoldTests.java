import java.util.function.ToLongFunction;

/** Boundary cases of promises 17 to 28: what is foretold, and IMAGES. */
public final class EdgeForetoldTests extends Edges {
    public static void main(String[] args) {
        runAll(EdgeForetoldTests.class, args);
    }

    /** As rich(), begun anew: t2 m2 t1 k r0 f4 in LINES of 5, from PAGE 8 on; a RING of two would come. */
    private static RefsSettle started() {
        RefsSettle x = rich();
        x.anew();
        return x;
    }

    /** The answer, that nothing changes by it, and that others ahead do not change it. */
    private static void foretold(String what, long due, ToLongFunction<RefsSettle> call) {
        leaves(EdgeForetoldTests::started, what, due, 3, call);
        for (int last = 0; last < 5; last++) {
            RefsSettle x = started();
            foretellOthers(x, last);
            Check.due(what + ", behind others, the last of them " + last, call.applyAsLong(x), due);
        }
    }

    private static void foretellOthers(RefsSettle x, int last) {
        for (int i = 1; i <= 5; i++) {
            switch ((last + i) % 5) {
                case 0 -> x.drawn(9, 5, 0);
                case 1 -> x.restless();
                case 2 -> x.room(2);
                case 3 -> x.chance(5, 0);
                default -> x.fits(1, 0, 0, 1, 0);
            }
        }
    }

    private static void refusedBare(String what, long due, ToLongFunction<RefsSettle> call) {
        refused(Edges::bare, what, due, call);
        refused(RefsSettle::new, what + ", new", due, call);
    }

    static void promise17_itemsThatThereAre() {
        foretold("the first", 8, x -> x.behind(0, 1));
        foretold("the last", 10, x -> x.behind(5, 1));
        badBeyondItems((x, item) -> x.behind(item, 1));
    }

    static void promise17_roundsAre0To60() {
        foretold("none: as it is", 8, x -> x.behind(5, 0));
        foretold("one", 10, x -> x.behind(5, 1));
        foretold("two", 9, x -> x.behind(5, 2));
        foretold("59", 10, x -> x.behind(5, 59));
        foretold("60", 9, x -> x.behind(5, 60));
        for (int n : outside(0, 60)) {
            refused("n " + n, BAD, x -> x.behind(5, n));
        }
    }

    static void promise17_withFrozenAsItIs() {
        RefsSettle x = Check.with(RING);
        x.settle();
        Check.due("it stays", x.behind(2, 59), 10);
        Check.due("it stays", x.behind(2, 60), 10);
    }

    static void promise18_noSheetIsState() {
        refusedBare("no SHEET", STATE, x -> x.lies());
    }

    static void promise18_noneOrAll() {
        leaves(Edges::rich, "settled", 0, 3, x -> x.lies());
        foretold("m2 and f4", 2 + 32, x -> x.lies());
        Check.due("the first and the last of twelve", Check.with("w4,1,1;r1;k;k;k;k;k;k;k;k;k;k;r11;").lies(), 2048);
        RefsSettle x = Check.with("w4,1,1;r11;r11;r11;r11;r11;r11;r11;r11;r11;r11;r11;r11;");
        Check.due("all twelve", x.lies(), 4095);
        Check.due("no reference", Check.with("w4,1,1;k;t1;").lies(), 0);
    }

    static void promise19_stateIsAheadOfBad() {
        for (int what = 0; what <= 5; what++) {
            int each = what;
            refusedBare("what " + what, STATE, x -> x.settled(each));
        }
        for (int what : outside(0, 5)) {
            refusedBare("what " + what, STATE, x -> x.settled(what));
        }
    }

    static void promise19_whatIs0To5() {
        int[] due = {3, 1, 2, 34, 10, 1};
        for (int what = 0; what <= 5; what++) {
            int each = what;
            foretold("what " + what, due[what], x -> x.settled(each));
        }
        for (int what : outside(0, 5)) {
            refused("what " + what, BAD, x -> x.settled(what));
        }
    }

    static void promise19_settledAlready() {
        int[] due = {0, 0, 0, 34, 10, 1};
        for (int what = 0; what <= 5; what++) {
            int each = what;
            leaves(Edges::rich, "what " + what, due[what], 3, x -> x.settled(each));
        }
    }

    static void promise19_withoutARingItIs0() {
        RefsSettle x = Check.with("w4,1,1;t4;t1;");
        int[] due = {1, 0, 0, 0, 2, 1};
        for (int what = 0; what <= 5; what++) {
            Check.due("what " + what, x.settled(what), due[what]);
        }
    }

    static void promise19_theRingOfTheFirstFreeze() {
        RefsSettle x = Check.with("w5,1,7;m2;m5;m1;m1;m4;m5;");
        int[] due = {8, 2, 3, 63, 11, 1};
        for (int what = 0; what <= 5; what++) {
            Check.due("a RING of three, then one of two, what " + what, x.settled(what), due[what]);
        }
    }

    static void promise20_itemsThatThereAre() {
        foretold("the first", 8, x -> x.ends(0));
        foretold("the last", 10, x -> x.ends(5));
        badBeyondItems((x, item) -> x.ends(item));
    }

    static void promise21_itemsThatThereAre() {
        foretold("the first", 0, x -> x.moves(0));
        foretold("the last", 0, x -> x.moves(5));
        badBeyondItems((x, item) -> x.moves(item));
    }

    static void promise21_aBreakIsBad() {
        refused("the break", BAD, x -> x.moves(3));
    }

    static void promise21_upToTheEndOfTheLine() {
        foretold("t1 goes to the next PAGE, and all behind it", 4 + 8 + 16 + 32, x -> x.moves(2));
        RefsSettle x = Check.with("w5,2,1;t2;t2;");
        Check.due("room for it: another COLUMN", x.moves(0), 2);
        Check.due("room for it", x.moves(1), 0);
        x.rule(0, 4);
        Check.due("no room for it: another LINE", x.moves(0), 2);
        Check.due("no room for it, itself", x.moves(1), 2);
    }

    static void promise21_anotherPageOrLineOrColumnAlone() {
        Check.due("t4 begins another PAGE", Check.with("w4,1,1;t2;t2;t4;").moves(1), 6);
        Check.due("t4 begins another LINE", Check.with("w4,5,1;t2;t2;t4;").moves(1), 6);
        Check.due("t4 has another COLUMN", Check.with("w9,1,1;t2;t2;t4;").moves(1), 4);
    }

    static void promise21_aWordOf20IsOneWiderToo() {
        RefsSettle x = Check.with("w20,1,1;t20;k;k;");
        Check.due("the break has another COLUMN", x.moves(0), 2);
        x.rule(0, 4);
        Check.due("in a LINE of 4 too", x.moves(0), 2);
    }

    static void promise21_twelveBits() {
        RefsSettle x = Check.with("w20,5,1;t1;t1;t1;t1;t1;t1;t1;t1;t1;t1;t1;t1;");
        Check.due("all but the first", x.moves(0), 4094);
        Check.due("the last alone", x.moves(10), 2048);
        Check.due("none", x.moves(11), 0);
    }

    static void promise22_wordsAlone() {
        foretold("the first", 20, x -> x.room(0));
        refused("a Roman one", BAD, x -> x.room(1));
        refused("a break", BAD, x -> x.room(3));
        refused("a reference", BAD, x -> x.room(4));
        refused("a following one", BAD, x -> x.room(5));
        badBeyondItems((x, item) -> x.room(item));
    }

    static void promise22_upTo20() {
        Check.due("alone in its LINE", Check.with("w4,1,1;t1;").room(0), 20);
        Check.due("20 fill a LINE", Check.with("w20,1,1;k;t1;").room(1), 20);
        Check.due("19 leave room for one more", Check.with("w20,1,1;t1;t1;").room(0), 19);
    }

    static void promise22_atLeastAsItIs() {
        RefsSettle x = Check.with("w4,1,1;t3;t1;");
        Check.due("3 and no more", x.room(0), 3);
        Check.due("2 and 1 more", Check.with("w4,1,1;t2;t1;").room(0), 3);
        Check.due("1 and no more", x.room(1), 1);
        Check.due("20 as it is", Check.with("w4,1,1;t20;t1;").room(0), 20);
    }

    /** By 2 it must freeze and ends on 11; by 3 and more it ends on 10, as by 1. */
    static void promise22_theGreatestThoughOneBetweenIsNot() {
        foretold("20", 20, x -> x.room(2));
        RefsSettle x = started();
        Check.due("by 1", x.ends(5), 10);
        x.number(2, 2);
        Check.due("by 2", x.ends(5), 11);
        x.number(2, 3);
        Check.due("by 3", x.ends(5), 10);
    }

    static void promise22_begunAnew() {
        leaves(Edges::rich, "as if it were not FROZEN", 20, 3, x -> x.room(2));
        RefsSettle x = rich();
        x.number(2, 2);
        Check.due("from 11 by 2", x.room(2), 2);
    }

    static void promise23_noSheetIsState() {
        refusedBare("no SHEET", STATE, x -> x.restless());
    }

    static void promise23_theLeastFirst() {
        foretold("by iii it goes on, by iv it comes back", 3, x -> x.restless());
        RefsSettle x = Check.with("w4,1,40;m9;m10;m0;r9;m11;m4;m6;m3;m2;m6;m2;m1;");
        Check.due("the first", x.restless(), 1);
    }

    /** By 0, which is no FIRST, t1 would go from 3 to 4 and back; by 4 it goes from 7 to 8, to 9 and back. */
    static void promise23_firstsBeginWith1() {
        Check.due("4", Check.with("w4,1,1;k;k;k;t1;m5;t1;").restless(), 4);
    }

    static void promise23_begunAnew() {
        leaves(Edges::rich, "as if it were not FROZEN", 3, 3, x -> x.restless());
    }

    /** On page 88 the Roman one has 8 signs and moves the break on to 89; by 89 it has 6. */
    static void promise23_theLastFirst() {
        Check.due("87", Check.with("w19,1,1;k;m3;t12;k;").restless(), 87);
    }

    /** With a break more it is so by 86; with none it would be so by 88, which is no FIRST. */
    static void promise23_none() {
        Check.due("a break more", Check.with("w19,1,1;k;k;m4;t12;k;").restless(), 86);
        Check.due("no break ahead", Check.with("w19,1,87;m2;t12;k;").restless(), NONE);
        Check.due("no reference", Check.with("w4,1,87;k;t1;").restless(), NONE);
    }

    static void promise24_itemsThatThereAre() {
        taken("the first", 0, x -> x.fits(0, 0, 0, 1, 0));
        taken("the last", 0, x -> x.fits(5, 0, 0, 1, 0));
        badBeyondItems((x, item) -> x.fits(item, 0, 0, 1, 0));
    }

    static void promise24_rowsAre0To7() {
        taken("the first", 0, x -> x.fits(0, 0, 0, 1, 0));
        for (int row : outside(0, 7)) {
            refused("ROW " + row, BAD, x -> x.fits(0, row, 0, 1, 0));
        }
        RefsSettle x = started();
        fill(x, 7, 0, 8);
        Check.due("the last", x.fits(0, 7, 0, 1, 3), 8);
    }

    /** Twelve ROUNDS of the last ITEM as they come, and one more that does not. */
    private static RefsSettle told() {
        RefsSettle x = started();
        fill(x, 3, 0, 10, 9, 10, 9, 10, 9, 10, 9, 10, 9, 10, 9, 99);
        x.as(0, 5);
        return x;
    }

    private static void fitting(String what, long due, ToLongFunction<RefsSettle> call) {
        leaves(EdgeForetoldTests::told, what, due, 0, call);
    }

    private static void unfit(String what, long due, ToLongFunction<RefsSettle> call) {
        refused(EdgeForetoldTests::told, what, due, call);
    }

    static void promise24_roundsAre1To12() {
        fitting("one", 8, x -> x.fits(5, 3, 0, 1, 3));
        fitting("twelve", 8, x -> x.fits(5, 3, 0, 12, 3));
        for (int n : outside(1, 12)) {
            unfit("n " + n, BAD, x -> x.fits(5, 3, 0, n, 3));
        }
    }

    static void promise24_eachRoundMustBeSo() {
        for (int wrong = 0; wrong < 12; wrong++) {
            RefsSettle x = told();
            x.set(3, wrong, 99);
            Check.due("all, with one wrong", x.fits(5, 3, 0, 12, 3), NONE);
            Check.due("up to the wrong one", x.fits(5, 3, 0, wrong + 1, 3), NONE);
            if (wrong > 0) {
                Check.due("ahead of it", x.fits(5, 3, 0, wrong, 3), 8);
            }
        }
    }

    static void promise24_whatIs0To3() {
        fitting("FIRSTS", 1, x -> x.fits(5, 3, 0, 1, 2));
        fitting("the least", 8, x -> x.fits(5, 3, 0, 1, 3));
        for (int what : outside(0, 3)) {
            unfit("what " + what, BAD, x -> x.fits(5, 3, 0, 1, what));
        }
    }

    static void promise24_aRowThatIsMissingIsNull() {
        for (int what = 0; what <= 3; what++) {
            int each = what;
            refused("what " + what, NULL, x -> x.fits(0, 7, 0, 1, each));
        }
    }

    static void promise24_badIsAheadOfNullAndPlace() {
        refused("ITEM 6", BAD, x -> x.fits(6, 7, 0, 1, 0));
        refused("n 0", BAD, x -> x.fits(0, 7, 0, 0, 0));
        refused("n 13", BAD, x -> x.fits(0, 0, 0, 13, 0));
        refused("what 4", BAD, x -> x.fits(0, 7, 0, 1, 4));
        refused("ITEM 6, place -1", BAD, x -> x.fits(6, 0, -1, 1, 0));
        refusedBare("no SHEET, a ROW that is missing", BAD, x -> x.fits(0, 7, 0, 1, 0));
    }

    static void promise24_nullIsAheadOfPlace() {
        refused("place -1", NULL, x -> x.fits(0, 7, -1, 1, 0));
    }

    static void promise24_placesEndWhereTheRowDoes() {
        fitting("up to the end", 0, x -> x.fits(5, 3, 1, 12, 2));
        unfit("beyond it", PLACE, x -> x.fits(5, 3, 2, 12, 2));
        fitting("the last", 0, x -> x.fits(5, 3, 12, 1, 2));
        unfit("behind it", PLACE, x -> x.fits(5, 3, 13, 1, 2));
        unfit("-1", PLACE, x -> x.fits(5, 3, -1, 1, 2));
        unfit("at least", PLACE, x -> x.fits(5, 3, LEAST, 1, 2));
        unfit("at most", PLACE, x -> x.fits(5, 3, MOST, 1, 2));
        unfit("a sum that wraps around", PLACE, x -> x.fits(5, 3, MOST - 5, 12, 2));
        unfit("a ROW of none", PLACE, x -> x.fits(5, 2, 0, 1, 2));
    }

    static void promise24_fromIOn() {
        RefsSettle x = started();
        x.row(3, 0, 40);
        for (int i = 0; i < 12; i++) {
            x.set(3, 28 + i, i % 2 == 0 ? 10 : 9);
        }
        Check.due("the last twelve of forty", x.fits(5, 3, 28, 12, 3), 8);
        Check.due("one further on", x.fits(5, 3, 29, 12, 3), PLACE);
        Check.due("one ahead", x.fits(5, 3, 27, 12, 3), NONE);
    }

    /** ITEM 0 STANDS on FIRST by every KIND and N: those that may be are those that fit. */
    private static void may(String text, int kinds, int numbers) {
        RefsSettle x = Check.with(text);
        fill(x, 0, 0, x.count(4));
        Check.due("KINDS of " + text, x.fits(0, 0, 0, 1, 0), kinds);
        Check.due("NUMBERS of " + text, x.fits(0, 0, 0, 1, 1), numbers);
        fill(x, 0, 0, 99);
        Check.due("no KIND of " + text, x.fits(0, 0, 0, 1, 0), 0);
        Check.due("no NUMBER of " + text, x.fits(0, 0, 0, 1, 1), 0);
    }

    static void promise24_kindsAndNumbersOfAWord() {
        int words = (1 << 21) - 2;
        may("w4,1,8;t1;", 16 + 32, words);
        may("w4,1,8;t1;k;", 62, words);
        may("w4,1,8;t2;k;", 16 + 32, words);
        may("w4,1,8;t11;k;k;k;k;k;k;k;k;k;k;k;", 62, words);
        may("w4,1,8;t12;k;k;k;k;k;k;k;k;k;k;k;", 16 + 32, words);
        may("w4,1,8;t20;k;k;k;k;k;k;k;k;k;k;k;", 16 + 32, words);
    }

    static void promise24_kindsAndNumbersOfAReference() {
        may("w4,1,8;r0;", 62 - 16, 1);
        may("w4,1,8;m1;k;", 62, 3);
        may("w4,1,8;f0;k;k;k;k;k;", 62 - 16, 63);
        may("w4,1,8;m11;k;k;k;k;k;k;k;k;k;k;k;", 62, 4095);
    }

    static void promise24_kindsAndNumbersOfABreak() {
        may("w4,1,8;k;", 62 - 16, (1 << 21) - 1);
    }

    /** As a Roman one ITEM 1 goes on, by viii; as any other there is room for it. */
    static void promise24_kindsThatFit() {
        RefsSettle x = Check.with(RING);
        fill(x, 0, 0, 8, 9, 10);
        Check.due("8", x.fits(1, 0, 0, 1, 0), 2 + 8 + 16 + 32);
        Check.due("9", x.fits(1, 0, 1, 1, 0), 4);
        Check.due("10", x.fits(1, 0, 2, 1, 0), 0);
    }

    /** Behind t1 and x there is room for 2 more in a LINE of 4. */
    static void promise24_numbersThatFit() {
        RefsSettle x = Check.with(RING);
        fill(x, 0, 0, 10, 8, 10);
        Check.due("1 and 2", x.fits(2, 0, 0, 3, 1), 2 + 4);
        fill(x, 0, 0, 10, 9);
        Check.due("3 to 20", x.fits(2, 0, 0, 2, 1), (1 << 21) - 8);
    }

    static void promise24_firstsAre1To87() {
        RefsSettle x = started();
        fill(x, 0, 1, 0, 1, 87, 88, -1, 264);
        int[] due = {NONE, 1, 87, NONE, NONE, NONE};
        for (int i = 0; i < due.length; i++) {
            Check.due("how many, " + i, x.fits(0, 0, i, 1, 2), due[i] == NONE ? 0 : 1);
            Check.due("the least, " + i, x.fits(0, 0, i, 1, 3), due[i]);
        }
        fill(x, 0, 1, 89, 90, 2, 3);
        int[] last = {87, NONE, NONE, 1};
        for (int i = 0; i < last.length; i++) {
            Check.due("of the last ITEM, 2 further on, " + i, x.fits(5, 0, i, 1, 3), last[i]);
        }
    }

    static void promise24_guessesStayAsTheyAre() {
        RefsSettle x = rich();
        fill(x, 3, 0, 42);
        Check.due("FROZEN, by 9", x.fits(5, 3, 0, 1, 3), 40);
        x = Check.with(RING);
        fill(x, 3, 0, 3, 1);
        Check.due("by viii, though FIRST is 1", x.fits(2, 3, 0, 1, 3), 1);
        Check.due("1 is not come to", x.fits(2, 3, 1, 1, 3), NONE);
    }

    static void promise25_stateIsAheadOfBad() {
        refusedBare("as told", STATE, x -> x.chance(0, 0));
        refusedBare("c 11", STATE, x -> x.chance(11, 0));
        refusedBare("what 2", STATE, x -> x.chance(0, 2));
    }

    /** It settles by itself if and only if t2 grows: c of 10, in lowest terms. */
    static void promise25_cIs0To10() {
        int[][] due = {{0, 1}, {1, 10}, {1, 5}, {3, 10}, {2, 5}, {1, 2}, {3, 5}, {7, 10}, {4, 5}, {9, 10}, {1, 1}};
        for (int c = 0; c <= 10; c++) {
            int each = c;
            foretold("above, " + c, due[c][0], x -> x.chance(each, 0));
            foretold("below, " + c, due[c][1], x -> x.chance(each, 1));
        }
        for (int c : outside(0, 10)) {
            refused("c " + c, BAD, x -> x.chance(c, 0));
        }
    }

    static void promise25_whatIs0To1() {
        for (int what : outside(0, 1)) {
            refused("what " + what, BAD, x -> x.chance(3, what));
        }
    }

    private static void chance(String text, int c, long above, long below) {
        RefsSettle x = Check.with(text);
        Check.due("above, of " + text, x.chance(c, 0), above);
        Check.due("below, of " + text, x.chance(c, 1), below);
    }

    static void promise25_begunAnew() {
        leaves(Edges::rich, "above, as if it were not FROZEN", 3, 3, x -> x.chance(3, 0));
        leaves(Edges::rich, "below", 10, 3, x -> x.chance(3, 1));
    }

    static void promise25_noneIs0By1() {
        chance("w4,1,8;r1;m2;r0;", 5, 0, 1);
        chance(RING, 0, 0, 1);
    }

    static void promise25_sureIs1By1() {
        chance("w4,1,8;k;", 5, 1, 1);
        chance("w20,5,1;t1;t1;t1;t1;t1;t1;t1;t1;t1;t1;t1;t1;", 3, 1, 1);
        chance(RING, 10, 1, 1);
    }

    /**
     * Behind t19 there is room for x, not for ix, and each comes of the other: a RING, but behind t20 there is
     * none. t20 cannot grow, which is told by the fraction: by 21 it would be as by 20.
     */
    static void promise25_wordsOf20StayAndOf19Grow() {
        chance("w20,1,8;t18;m2;t20;", 3, 7, 10);
        chance("w20,1,8;t19;m2;t20;", 3, 3, 10);
        chance("w20,1,8;t20;m2;t20;", 3, 1, 1);
        chance("w4,1,8;m1;k;t20;", 7, 1, 1);
    }

    static void promise26_stateIsAheadOfBad() {
        refusedBare("as told", STATE, x -> x.drawn(0, 1, 0));
        refusedBare("n 61", STATE, x -> x.drawn(61, 1, 0));
        refusedBare("SEED 0", STATE, x -> x.drawn(0, 0, 0));
        refusedBare("what 2", STATE, x -> x.drawn(0, 1, 2));
    }

    static void promise26_editsAre0To60() {
        foretold("none", 0, x -> x.drawn(0, 6, 0));
        foretold("the PAGE by none: GUESS as it is", 8, x -> x.drawn(0, 6, 1));
        foretold("59", 23, x -> x.drawn(59, 6, 0));
        foretold("the PAGE by 59", 10, x -> x.drawn(59, 6, 1));
        foretold("60", 24, x -> x.drawn(60, 6, 0));
        foretold("the PAGE by 60", 11, x -> x.drawn(60, 6, 1));
        for (int n : outside(0, 60)) {
            refused("n " + n, BAD, x -> x.drawn(n, 6, 0));
        }
    }

    /** By 1 X is 16807: m2 refers to itself. By 999999 it is 1774597664: ITEM 2 becomes 5. */
    static void promise26_seedsAre1To999999() {
        foretold("1", 10, x -> x.drawn(1, 1, 1));
        foretold("999999", 11, x -> x.drawn(1, 999999, 1));
        for (int seed : outside(1, 999999)) {
            refused("SEED " + seed, BAD, x -> x.drawn(1, seed, 0));
        }
    }

    static void promise26_whatIs0To1() {
        for (int what : outside(0, 1)) {
            refused("what " + what, BAD, x -> x.drawn(1, 1, what));
        }
    }

    /** By 57, 54, 40 X is 957999, 907578, 672280: its rest by 20 is 19, 18, 0; by 3 it is 0, 0, 1. */
    static void promise26_aWordBecomes1To20() {
        RefsSettle x = Check.with("w20,1,1;t1;t1;k;");
        Check.due("20 fill a LINE", x.drawn(1, 57, 1), 2);
        Check.due("19 do not", x.drawn(1, 54, 1), 1);
        x = Check.with("w20,1,1;t20;t5;k;");
        Check.due("1 does not fit behind 20", x.drawn(1, 40, 1), 2);
    }

    static void promise26_aBreakStaysAndARoundIsDone() {
        RefsSettle x = Check.with("w4,1,5;k;");
        Check.due("nothing changes", x.drawn(60, 7, 0), 0);
        x.rule(2, 9);
        Check.due("GUESS yet", x.drawn(0, 7, 1), 5);
        Check.due("GUESS by a ROUND", x.drawn(1, 7, 1), 9);
        Check.due("it changed once", x.drawn(60, 7, 0), 1);
    }

    static void promise27_imagesAre0And1() {
        taken("0", 1, x -> x.image(0));
        taken("1", 1, x -> x.image(1));
        for (int k : outside(0, 1)) {
            refused("IMAGE " + k, BAD, x -> x.image(k));
        }
    }

    static void promise27_noSheetIsState() {
        refusedBare("0", STATE, x -> x.image(0));
        refusedBare("1", STATE, x -> x.image(1));
    }

    static void promise27_badIsAheadOfState() {
        refusedBare("-1", BAD, x -> x.image(-1));
        refusedBare("2", BAD, x -> x.image(2));
    }

    static void promise27_theOtherOneAndTheActsStay() {
        RefsSettle x = rich();
        String other = "sheet 6 4 1 8 34 3 0 | 4 1 8 0 | 2 2 9 4 | 4 1 10 0 | 5 0 10 0 | 1 0 11 0 | 3 4 11 3";
        String now = "sheet 6 5 1 8 34 4 0 | 4 2 8 0 | 2 2 9 4 | 4 1 9 0 | 5 0 9 0 | 1 0 10 0 | 3 4 10 3";
        x.image(0);
        Check.due("no ACT", x.count(7), 4);
        x.restore(1);
        Check.same("the other one", Whole.sheet(x), other);
        x.restore(0);
        Check.same("the one that is kept", Whole.sheet(x), now);
    }

    static void promise28_imagesAre0And1() {
        taken("0", 1, x -> x.restore(0));
        taken("1", 1, x -> x.restore(1));
        for (int k : outside(0, 1)) {
            refused("IMAGE " + k, BAD, x -> x.restore(k));
        }
    }

    private static RefsSettle withoutImages() {
        RefsSettle x = Check.with(SHEET);
        x.round();
        return x;
    }

    private static RefsSettle withImage1() {
        RefsSettle x = withoutImages();
        x.image(1);
        return x;
    }

    static void promise28_noneWasKeptIsState() {
        refusedBare("0", STATE, x -> x.restore(0));
        refusedBare("1", STATE, x -> x.restore(1));
        refused(EdgeForetoldTests::withoutImages, "0 of a SHEET", STATE, x -> x.restore(0));
        refused(EdgeForetoldTests::withoutImages, "1 of a SHEET", STATE, x -> x.restore(1));
        refused(EdgeForetoldTests::withImage1, "only the other one", STATE, x -> x.restore(0));
        taken(EdgeForetoldTests::withImage1, "the one", 1, x -> x.restore(1));
    }

    static void promise28_badIsAheadOfState() {
        refusedBare("-1", BAD, x -> x.restore(-1));
        refusedBare("2", BAD, x -> x.restore(2));
    }

    static void promise28_noActCanBeUndoneThen() {
        RefsSettle x = rich();
        x.restore(0);
        Check.due("none", x.count(7), 0);
        Check.due("undo", x.undo(), STATE);
        Check.same("as it was kept", Whole.sheet(x),
            "sheet 6 4 1 8 0 0 0 | 4 1 8 0 | 2 2 8 0 | 4 1 8 0 | 5 0 8 0 | 1 0 8 0 | 3 4 8 0");
        x.round();
        Check.due("an ACT behind it", x.undo(), 0);
        Check.due("no more", x.undo(), STATE);
    }

    static void promise28_theSheetAlone() {
        RefsSettle x = rich();
        x.restore(0);
        Check.due("status()", x.status(), 3);
        Check.due("fault()", x.fault(), 2);
        Check.due("THE TRACE", x.trace(0), 12);
        Check.due("ROWS", x.count(0), 3);
        Check.due("bytes", x.count(8), 2);
        values(x, 0, 11, 12);
    }

    static void promise28_anImageStays() {
        RefsSettle x = rich();
        x.restore(1);
        String kept = Whole.sheet(x);
        x.number(0, 20);
        x.anew();
        Check.read(x, "x");
        Check.read(x, "w4,1,1;t1;");
        Check.due("again", x.restore(1), 1);
        Check.same("as it was kept", Whole.sheet(x), kept);
    }
}

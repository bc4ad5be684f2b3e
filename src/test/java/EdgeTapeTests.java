/** Boundary cases of promises 6 to 8: the tape, and what is read of it. */
public final class EdgeTapeTests extends Edges {
    private static final String TWELVE = "w4,1,1;k;k;k;k;k;k;k;k;k;k;k;k;";

    public static void main(String[] args) {
        runAll(EdgeTapeTests.class, args);
    }

    private static void good(String text, int items) {
        RefsSettle x = new RefsSettle();
        Check.due("'" + text + "'", Check.read(x, text), items);
        Check.due("ITEMS of '" + text + "'", x.count(1), items);
        Check.due("no FAULT of '" + text + "'", x.fault(), 0);
    }

    private static void bad(String text, int fault, int place) {
        RefsSettle x = new RefsSettle();
        Check.due("'" + text + "'", Check.read(x, text), -1000100 - place);
        Check.due("FAULT of '" + text + "'", x.fault(), fault);
        Check.due("no ITEM of '" + text + "'", x.count(1), 0);
    }

    /** A NUMBER between two texts: both ends of what is told for it, and what is beyond them. */
    private static void numbers(String ahead, String behind, int least, int most) {
        good(ahead + least + behind, 1);
        good(ahead + most + behind, 1);
        bad(ahead + (most + 1) + behind, 2, ahead.length());
        bad(ahead + "99" + behind, 2, ahead.length());
        if (least > 0) {
            bad(ahead + (least - 1) + behind, 2, ahead.length());
            bad(ahead + "0" + behind, 2, ahead.length());
            bad(ahead + "00" + behind, 2, ahead.length());
        }
    }

    static void promise06_bytesAre0To255() {
        taken("the first", 3, x -> x.feed(0));
        taken("the last", 3, x -> x.feed(255));
        for (int letter : outside(0, 255)) {
            refused("byte " + letter, BAD, x -> x.feed(letter));
        }
    }

    private static RefsSettle fullTape() {
        RefsSettle x = rich();
        for (int bytes = 3; bytes <= 80; bytes++) {
            x.feed(',');
        }
        return x;
    }

    static void promise06_bytesAre80AtMost() {
        RefsSettle x = new RefsSettle();
        for (int bytes = 1; bytes <= 80; bytes++) {
            Check.due("byte " + bytes, x.feed('w'), bytes);
        }
        Check.due("80", x.count(8), 80);
        refused(EdgeTapeTests::fullTape, "81", FULL, y -> y.feed('w'));
    }

    static void promise06_badIsAheadOfFull() {
        refused(EdgeTapeTests::fullTape, "-1", BAD, x -> x.feed(-1));
        refused(EdgeTapeTests::fullTape, "256", BAD, x -> x.feed(256));
    }

    static void promise06_behindSheetThereIsRoomAgain() {
        RefsSettle x = fullTape();
        x.sheet();
        Check.due("the first byte", x.feed('w'), 1);
    }

    static void promise07_theTapeIsEmptyThen() {
        RefsSettle x = new RefsSettle();
        Check.due("read", Check.read(x, "w4,1,1;t1;"), 1);
        Check.due("bytes", x.count(8), 0);
        Check.due("read again", x.sheet(), -1000100);
        Check.due("a FAULT", Check.read(x, "w4,1,1;x"), -1000107);
        Check.due("bytes behind a FAULT", x.count(8), 0);
        Check.due("read again", x.sheet(), -1000100);
    }

    static void promise07_anEmptyTape() {
        bad("", 1, 0);
    }

    static void promise07_widthIs4To20() {
        numbers("w", ",1,1;t1;", 4, 20);
    }

    static void promise07_linesAre1To5() {
        numbers("w4,", ",1;t1;", 1, 5);
    }

    static void promise07_firstIs1To87() {
        numbers("w4,1,", ";t1;", 1, 87);
    }

    static void promise07_aWordIs1To20() {
        numbers("w4,1,1;t", ";", 1, 20);
    }

    static void promise07_aReferenceIs0To11() {
        for (char letter : "rmf".toCharArray()) {
            good("w4,1,1;" + letter + "0;", 1);
            good("w4,1,1;" + letter + "11;k;k;k;k;k;k;k;k;k;k;k;", 12);
            bad("w4,1,1;" + letter + "12;k;k;k;k;k;k;k;k;k;k;k;", 2, 8);
            bad("w4,1,1;" + letter + "99;k;k;k;k;k;k;k;k;k;k;k;", 2, 8);
        }
    }

    static void promise07_whatIsReadIsKept() {
        RefsSettle x = Check.with("w20,5,87;t20;r11;m10;f0;k;k;k;k;k;k;k;t1;");
        int[] law = {12, 20, 5, 87};
        for (int what = 1; what <= 4; what++) {
            Check.due("count " + what, x.count(what), law[what - 1]);
        }
        int[] numbers = {20, 11, 10, 0, 0, 0, 0, 0, 0, 0, 0, 1};
        int[] kinds = {4, 1, 2, 3, 5, 5, 5, 5, 5, 5, 5, 4};
        for (int item = 0; item < 12; item++) {
            Check.due("N of " + item, x.item(item, 0), numbers[item]);
            Check.due("KIND of " + item, x.kind(item), kinds[item]);
        }
        x = Check.with("w4,1,1;t1;");
        Check.due("the least law", x.count(2) * 100 + x.count(3) * 10 + x.count(4), 411);
    }

    static void promise07_numbersHaveTwoFiguresAtMost() {
        good("w04,01,01;t01;r00;", 2);
        RefsSettle x = Check.with("w09,05,08;t07;r00;");
        Check.due("with noughts ahead", x.count(2) * 1000 + x.count(3) * 100 + x.count(4) * 10 + x.item(0, 0), 9587);
        bad("w004,1,1;t1;", 1, 1);
        bad("w4,001,1;t1;", 1, 3);
        bad("w4,1,001;t1;", 1, 5);
        bad("w4,1,1;t001;", 1, 8);
        bad("w4,1,1;r000;", 1, 8);
        bad("w4,1,1;t0001;", 1, 8);
        bad("w4,1,100;t1;", 1, 5);
        bad("w999,1,1;t1;", 1, 1);
    }

    /** A run of three is no TOKEN wherever it stands; one of two cannot stand there either. */
    static void promise07_runsOfFiguresWhereNoNumberStands() {
        String[] runs = {"1", "12", "123", "1234"};
        for (String run : runs) {
            bad(run, 1, 0);
            bad("w4,1,1;" + run, 1, 7);
            bad("w4,1,1;" + run + ";", 1, 7);
            bad("w4,1,1;k" + run + ";", 1, 8);
            bad("w4,1,1;t1;" + run, 1, 10);
            bad(TWELVE + run, 1, 31);
        }
    }

    static void promise07_theTapeEndsWithinARun() {
        bad("w1", 2, 1);
        bad("w12", 1, 3);
        bad("w123", 1, 1);
        bad("w4,1,1;t2", 1, 9);
        bad("w4,1,1;t20", 1, 10);
        bad("w4,1,1;t200", 1, 8);
    }

    static void promise07_anItemAtLeast() {
        bad("w4,1,1;", 1, 7);
        good("w4,1,1;k;", 1);
    }

    static void promise07_itemsAre12AtMost() {
        good(TWELVE, 12);
        for (char letter : "tkrmf".toCharArray()) {
            bad(TWELVE + letter, 3, 31);
            bad(TWELVE + letter + "0;", 3, 31);
            bad(TWELVE + letter + "999;", 3, 31);
            bad(TWELVE + letter + ";k;", 3, 31);
        }
    }

    static void promise07_ofOneTokenTheLeastFault() {
        bad(TWELVE + "w", 1, 31);
        bad(TWELVE + "x", 1, 31);
        bad(TWELVE + ";", 1, 31);
        bad(TWELVE + "5", 1, 31);
        bad("w4,1,1;t100;", 1, 8);
    }

    static void promise07_theFirstTokenThatHasOne() {
        bad("w3,0,0;t0;", 2, 1);
        bad("w4,0,0;x", 2, 3);
        bad("w4,1,0x", 2, 5);
        bad("w4,1,1;t0x", 2, 8);
        bad("w4,1,1;r5;x", 1, 10);
        bad("w4,1,1;r5;t0;", 2, 11);
        bad("w4,1,1;r11;k;k;k;k;k;k;k;k;k;k;k;k;", 3, 33);
        bad("w4,1;1,x", 1, 4);
    }

    static void promise07_aReferenceToNoItemIsFault4AtTheEnd() {
        for (char letter : "rmf".toCharArray()) {
            good("w4,1,1;k;" + letter + "1;", 2);
            bad("w4,1,1;k;" + letter + "2;", 4, 12);
            bad("w4,1,1;" + letter + "1;", 4, 10);
            bad("w4,1,1;" + letter + "11;k;k;", 4, 15);
            bad("w4,1,1;" + letter + "11;k;k;k;k;k;k;k;k;k;k;", 4, 31);
            good("w4,1,1;" + letter + "01;k;", 2);
        }
        bad("w4,1,1;r0;r9;r9;", 4, 16);
        good("w4,1,1;t20;", 1);
    }

    /** At every place of a text every byte but those that can stand there is FAULT 1, at that place. */
    static void promise07_noOtherBytes() {
        String text = "w4,1,1;t1;k;r0;";
        String[] allowed = {"w", "0123456789", ",0123456789", "0123456789", ",0123456789", "0123456789",
            ";0123456789", "tkrmf", "0123456789", ";0123456789", "tkrmf", ";", "tkrmf", "0123456789", ";0123456789"};
        for (int place = 0; place < text.length(); place++) {
            for (int letter = 0; letter <= 255; letter++) {
                if (allowed[place].indexOf(letter) < 0) {
                    bad(text.substring(0, place) + (char) letter + text.substring(place + 1), 1, place);
                }
            }
        }
        bad(text + " ", 1, 15);
        bad(" " + text, 1, 0);
        bad(text + "\n", 1, 15);
    }

    static void promise07_theEndIsAFaultWhereMoreMustCome() {
        String text = "w4,1,1;t1;k;r0;m1;f2;";
        for (int length = 0; length < text.length(); length++) {
            boolean whole = length > 7 && text.charAt(length - 1) == ';';
            if (!whole) {
                bad(text.substring(0, length), 1, length);
            }
        }
        good("w4,1,1;t1;", 1);
        good("w4,1,1;t1;k;", 2);
        good(text, 5);
    }

    /** What a longer tape left behind its end is not read. */
    static void promise07_bytesOfTheTapeBeforeAreGone() {
        RefsSettle x = new RefsSettle();
        Check.due("long", Check.read(x, "w14,5,17;t15;k;r0;"), 3);
        Check.due("cut within a NUMBER", Check.read(x, "w14,5,1"), -1000107);
        Check.due("cut behind an ITEM", Check.read(x, "w14,5,17;t15;"), 1);
        Check.due("cut behind the law", Check.read(x, "w14,5,17;"), -1000109);
    }

    /** The object has met the same FAULT already, so that fault() stays too. */
    private static void allStays(String text, int place) {
        leaves(() -> richBehind(text), "'" + text + "'", -1000100 - place, 3, x -> Check.read(x, text));
    }

    static void promise07_byAFaultAllStays() {
        allStays("", 0);
        allStays("w4,1,1;t", 8);
        allStays("w4,1,1;t1;t2;k;k;x", 17);
        allStays("w4,1,1;t1;t21;", 11);
        allStays("w4,1,9;k;k;k;k;k;k;k;k;k;k;k;k;k;", 31);
        allStays("w4,1,9;k;k;r3;", 14);
    }

    static void promise07_byAFaultNoSheetIsThereYet() {
        RefsSettle x = new RefsSettle();
        Check.read(x, "w4,1,1;t1;r2;");
        Check.due("FAULT", x.fault(), 4);
        for (int what = 1; what <= 7; what++) {
            Check.due("count " + what, x.count(what), 0);
        }
        Check.due("no ITEM", x.item(0, 0), BAD);
        Check.due("no SHEET", x.round(), STATE);
    }

    /** Neither the IMAGES nor THE TRACE nor ROWS are a part of the SHEET. */
    static void promise07_inPlaceOfTheOneBefore() {
        RefsSettle x = rich();
        x.sheet();
        x.ends(0);
        Check.due("another", Check.read(x, "w5,2,9;t1;r0;"), 2);
        Check.same("as it is read", Whole.sheet(x), "sheet 2 5 2 9 0 0 0 | 4 1 9 0 | 1 0 9 0");
        Check.due("no ACT can be undone", x.undo(), STATE);
        Check.due("no ITEM of the one before", x.kind(2), BAD);
        Check.due("THE TRACE stays", x.trace(0), 12);
        Check.due("status() stays", x.status(), 3);
        Check.due("ROWS stay", x.count(0), 3);
        Check.due("IMAGES stay", x.restore(1), 1);
        Check.due("as they were kept", x.count(1) * 100 + x.count(5), 634);
    }

    static void promise08_noneBeforeOne() {
        RefsSettle x = new RefsSettle();
        Check.due("at first", x.fault(), 0);
        Check.read(x, "w4,1,1;t1;");
        Check.due("behind a SHEET", x.fault(), 0);
        Check.read(x, "w3");
        Check.due("one", x.fault(), 2);
    }

    static void promise08_theLatestOfFour() {
        RefsSettle x = new RefsSettle();
        String[] texts = {"", "w3", TWELVE + "k", "w4,1,1;r1;"};
        for (int fault = 1; fault <= 4; fault++) {
            Check.read(x, texts[fault - 1]);
            Check.due("FAULT", x.fault(), fault);
        }
        Check.read(x, "w4,1,1;t1;");
        Check.due("a SHEET without one leaves it", x.fault(), 4);
        x.sheet();
        Check.due("the latest", x.fault(), 1);
    }
}

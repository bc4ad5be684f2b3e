import java.util.Arrays;

/**
 * A sheet of words, breaks and references that print pages, set out round by round until it settles.
 */
public final class RefsSettle {
    public static final int NONE = -1000000, BAD = -1000001, STATE = -1000002, FULL = -1000003;

    private static final int FOUND = -1000010, FAULTY = -1000100;
    private static final int NULL = 1, PLACE = 2, NOT_OF_KIND = 3, SIZE = 4, STORE = 5;
    private static final int MOST_ITEMS = 12, MOST_BYTES = 80, MOST_ROUNDS = 9999;
    private static final int MOST_BEHIND = 60, MOST_EDITS = 60, MOST_SEED = 999999, MOST_TOLD = 12;
    private static final int LEAST_WIDTH = 4, MOST_WIDTH = 20, MOST_LINES = 5, MOST_FIRST = 87;
    private static final int MOST_N = 20;
    private static final int ANY_ITEM = 0, REFERENCE = 1, ROMAN = 2, FOLLOWING = 3, WORD = 4, BREAK = 5;

    private final Rows rows;
    private final int[] tape;
    private int bytes;
    private final Reader reader;
    private final Sheet live;
    private final Sheet trial;
    private final Settling settling;
    private final Foretelling foretelling;
    private final Past past;
    private final Sheet[] images;
    private final Asking asking;
    private int latestFault;
    private int finding;

    public RefsSettle() {
        rows = new Rows();
        tape = new int[MOST_BYTES];
        reader = new Reader();
        live = new Sheet();
        trial = new Sheet();
        settling = new Settling();
        foretelling = new Foretelling(live, trial, settling);
        past = new Past();
        images = new Sheet[] {new Sheet(), new Sheet()};
        asking = new Asking(live);
    }

    // ---- rows

    public int row(int row, int lane, int n) {
        if (!Rows.isNumber(row) || !Rows.isLane(lane) || n > Rows.MOST_PLACES) {
            return BAD;
        }
        if (n < 0) {
            return found(SIZE);
        }
        rows.make(row, lane, n);
        return sound(n);
    }

    public int set(int row, int i, int v) {
        if (!Rows.isNumber(row)) {
            return BAD;
        }
        if (rows.isMissing(row)) {
            return found(NULL);
        }
        if (!rows.hasPlaces(row, i, 1)) {
            return found(PLACE);
        }
        return sound(rows.put(row, i, v));
    }

    public int copy(int a, int i, int b, int j, int n) {
        if (!Rows.isNumber(a) || !Rows.isNumber(b)) {
            return BAD;
        }
        if (rows.isMissing(a) || rows.isMissing(b)) {
            return found(NULL);
        }
        if (!rows.areOfOneLane(a, b)) {
            return found(STORE);
        }
        if (!rows.hasPlaces(a, i, n) || !rows.hasPlaces(b, j, n)) {
            return found(PLACE);
        }
        rows.carry(a, i, b, j, n);
        return sound(n);
    }

    public int drop(int row) {
        if (!Rows.isNumber(row)) {
            return BAD;
        }
        if (rows.isMissing(row)) {
            return found(NULL);
        }
        return sound(rows.lose(row));
    }

    // ---- sheets, acts

    public int feed(int letter) {
        if (letter < 0 || letter > 255) {
            return BAD;
        }
        if (bytes >= MOST_BYTES) {
            return FULL;
        }
        tape[bytes] = letter;
        bytes++;
        return bytes;
    }

    public int sheet() {
        int length = bytes;
        bytes = 0;
        if (!reader.reads(tape, length, trial)) {
            latestFault = reader.fault;
            return FAULTY - reader.place;
        }
        live.takeFrom(trial);
        past.forget();
        return live.count;
    }

    public int fault() {
        return latestFault;
    }

    public int round() {
        if (isWithoutSheet()) {
            return STATE;
        }
        if (live.rounds >= MOST_ROUNDS) {
            return FULL;
        }
        past.remember(live);
        live.rounds++;
        return settling.goRound(live);
    }

    public int settle() {
        if (isWithoutSheet()) {
            return STATE;
        }
        // It is tried apart, because it may prove to be FULL only when its ROUNDS are known.
        trial.takeFrom(live);
        settling.bringToRest(trial, false);
        if (live.rounds + settling.rounds > MOST_ROUNDS) {
            return FULL;
        }
        past.remember(live);
        live.takeFrom(trial);
        live.rounds += settling.rounds;
        return settling.rounds;
    }

    public int number(int item, int n) {
        if (!live.holds(item) || live.kinds[item] == BREAK || !live.mayBeNumber(live.kinds[item], n)) {
            return BAD;
        }
        past.remember(live);
        int was = live.numbers[item];
        live.numbers[item] = n;
        return was;
    }

    public int rule(int which, int v) {
        if (isWithoutSheet()) {
            return STATE;
        }
        switch (which) {
            case 0:
                return v < LEAST_WIDTH || v > MOST_WIDTH ? BAD : changeWidth(v);
            case 1:
                return v < 1 || v > MOST_LINES ? BAD : changeLines(v);
            case 2:
                return v < 1 || v > MOST_FIRST ? BAD : changeFirst(v);
            default:
                return BAD;
        }
    }

    public int anew() {
        if (isWithoutSheet()) {
            return STATE;
        }
        past.remember(live);
        int were = Integer.bitCount(live.frozenBits());
        live.beginAnew();
        return were;
    }

    public int undo() {
        if (past.size == 0) {
            return STATE;
        }
        past.bringBack(live);
        return past.size;
    }

    public int item(int item, int what) {
        if (!live.holds(item)) {
            return BAD;
        }
        switch (what) {
            case 0:
                return live.numbers[item];
            case 1:
                return live.guesses[item];
            case 2:
                return live.frozen[item];
            case 3:
                return live.wideBy(live.guesses, item);
            case 4:
                return settling.outlined(live).pages[item];
            case 5:
                return settling.outlined(live).lines[item];
            case 6:
                return settling.outlined(live).columns[item];
            default:
                return BAD;
        }
    }

    public int print(int item, int j) {
        if (!live.holds(item) || !live.isReference(item) || j < 0) {
            return BAD;
        }
        return live.signOf(item, j);
    }

    // ---- foretold

    public int behind(int item, int n) {
        if (!live.holds(item) || n < 0 || n > MOST_BEHIND) {
            return BAD;
        }
        return foretelling.guessBehind(item, n);
    }

    public int lies() {
        return isWithoutSheet() ? STATE : foretelling.lying();
    }

    public int settled(int what) {
        if (isWithoutSheet()) {
            return STATE;
        }
        if (what < 0 || what > 5) {
            return BAD;
        }
        trial.takeFrom(live);
        settling.bringToRest(trial, false);
        switch (what) {
            case 0:
                return settling.rounds;
            case 1:
                return settling.freezes;
            case 2:
                return settling.firstRing;
            case 3:
                return trial.frozenBits();
            case 4:
                return trial.lastGuess();
            default:
                return settling.atRest ? 1 : 0;
        }
    }

    public int ends(int item) {
        if (!live.holds(item)) {
            return BAD;
        }
        trial.takeFrom(live);
        settling.bringToRest(trial, false);
        return trial.guesses[item];
    }

    public int moves(int item) {
        if (!live.holds(item) || live.kinds[item] == BREAK) {
            return BAD;
        }
        return foretelling.movedBy(item);
    }

    public int room(int item) {
        if (!live.holds(item) || live.kinds[item] != WORD) {
            return BAD;
        }
        return foretelling.widestOf(item);
    }

    public int restless() {
        return isWithoutSheet() ? STATE : foretelling.restlessFirst();
    }

    public int fits(int item, int row, int i, int n, int what) {
        if (!live.holds(item) || !Rows.isNumber(row) || n < 1 || n > MOST_TOLD || what < 0 || what > 3) {
            return BAD;
        }
        if (rows.isMissing(row)) {
            return found(NULL);
        }
        if (!rows.hasPlaces(row, i, n)) {
            return found(PLACE);
        }
        foretelling.expect(item, rows.values[row], i, n);
        switch (what) {
            case 0:
                return sound(foretelling.kindsAsExpected());
            case 1:
                return sound(foretelling.numbersAsExpected());
            case 2:
                return sound(foretelling.firstsAsExpected(true));
            default:
                return sound(foretelling.firstsAsExpected(false));
        }
    }

    public long chance(int c, int what) {
        if (isWithoutSheet()) {
            return STATE;
        }
        if (c < 0 || c > 10 || what < 0 || what > 1) {
            return BAD;
        }
        long above = foretelling.weightOfRest(c);
        long below = foretelling.weightOfAll();
        long common = greatestCommon(above, below);
        long told = what == 0 ? above : below;
        return common > 0 ? told / common : told;
    }

    public int drawn(int n, int seed, int what) {
        if (isWithoutSheet()) {
            return STATE;
        }
        if (n < 0 || n > MOST_EDITS || seed < 1 || seed > MOST_SEED || what < 0 || what > 1) {
            return BAD;
        }
        int changed = foretelling.editsThatChange(n, seed);
        return what == 0 ? changed : trial.lastGuess();
    }

    public int image(int k) {
        if (k < 0 || k >= images.length) {
            return BAD;
        }
        if (isWithoutSheet()) {
            return STATE;
        }
        images[k].takeFrom(live);
        return 1;
    }

    public int restore(int k) {
        if (k < 0 || k >= images.length) {
            return BAD;
        }
        if (images[k].count == 0) {
            return STATE;
        }
        live.takeFrom(images[k]);
        past.forget();
        return 1;
    }

    // ---- asked

    public int kind(int item) {
        return live.holds(item) ? live.kinds[item] : BAD;
    }

    public int as(int item, int kind) {
        if (!live.holds(item) || kind < ANY_ITEM || kind > BREAK) {
            return BAD;
        }
        return live.isOfKind(item, kind) ? sound(item) : found(NOT_OF_KIND);
    }

    public int ask(int item, int what) {
        if (!live.holds(item) || what < 0 || what > 1) {
            return BAD;
        }
        asking.clear();
        if (live.isReference(item)) {
            return what == 0 ? asking.sizeOfReference(item) : asking.markOfReference(item);
        }
        return what == 0 ? asking.sizeOfWord(item) : asking.markOfWord(item);
    }

    public int trace(int i) {
        return i >= 0 && i < asking.traced ? asking.begun[i] : NONE;
    }

    public int count(int what) {
        switch (what) {
            case 0:
                return rows.present();
            case 1:
                return live.count;
            case 2:
                return live.width;
            case 3:
                return live.lines;
            case 4:
                return live.first;
            case 5:
                return live.frozenBits();
            case 6:
                return live.rounds;
            case 7:
                return past.size;
            case 8:
                return bytes;
            default:
                return BAD;
        }
    }

    public int status() {
        return finding;
    }

    private boolean isWithoutSheet() {
        return live.count == 0;
    }

    private int found(int which) {
        finding = which;
        return FOUND - which;
    }

    private int sound(int answer) {
        finding = 0;
        return answer;
    }

    private int changeWidth(int v) {
        past.remember(live);
        int was = live.width;
        live.width = v;
        return was;
    }

    private int changeLines(int v) {
        past.remember(live);
        int was = live.lines;
        live.lines = v;
        return was;
    }

    private int changeFirst(int v) {
        past.remember(live);
        int was = live.first;
        live.first = v;
        return was;
    }

    private static long greatestCommon(long a, long b) {
        // Euclid's rest shrinks by half every two steps: 128 are more than a long can need.
        for (int step = 0; step < 128 && b != 0; step++) {
            long rest = a % b;
            a = b;
            b = rest;
        }
        return a;
    }

    /** The eight numbered ROWS. */
    private static final class Rows {
        static final int MOST_ROWS = 8, MOST_PLACES = 40, MISSING = -1;

        final int[] lanes = new int[MOST_ROWS];
        final int[] sizes = new int[MOST_ROWS];
        final int[][] values = new int[MOST_ROWS][MOST_PLACES];

        Rows() {
            Arrays.fill(lanes, MISSING);
        }

        static boolean isNumber(int row) {
            return row >= 0 && row < MOST_ROWS;
        }

        static boolean isLane(int lane) {
            return lane >= 0 && lane <= 2;
        }

        boolean isMissing(int row) {
            return lanes[row] == MISSING;
        }

        boolean areOfOneLane(int a, int b) {
            return lanes[a] == lanes[b];
        }

        boolean hasPlaces(int row, int i, int n) {
            return i >= 0 && n >= 0 && i <= sizes[row] && n <= sizes[row] - i;
        }

        void make(int row, int lane, int n) {
            lanes[row] = lane;
            sizes[row] = n;
            Arrays.fill(values[row], 0);
        }

        int put(int row, int i, int v) {
            values[row][i] = lanes[row] == 0 ? (byte) v : lanes[row] == 1 ? (short) v : v;
            return values[row][i];
        }

        void carry(int a, int i, int b, int j, int n) {
            System.arraycopy(values[a], i, values[b], j, n);
        }

        int lose(int row) {
            lanes[row] = MISSING;
            return sizes[row];
        }

        int present() {
            int many = 0;
            for (int row = 0; row < MOST_ROWS; row++) {
                if (!isMissing(row)) {
                    many++;
                }
            }
            return many;
        }
    }

    /** All that an ACT can change and an IMAGE keeps; without ITEMS it is no SHEET. */
    private static final class Sheet {
        /** Signs of the Roman figures 0 to 9, which are as many for tens as for ones. */
        static final int[] ROMAN_SIGNS = {0, 1, 2, 3, 2, 1, 2, 3, 4, 2};

        int count;
        int width;
        int lines;
        int first;
        int rounds;
        final int[] kinds = new int[MOST_ITEMS];
        final int[] numbers = new int[MOST_ITEMS];
        final int[] guesses = new int[MOST_ITEMS];
        final int[] frozen = new int[MOST_ITEMS];

        void takeFrom(Sheet other) {
            count = other.count;
            width = other.width;
            lines = other.lines;
            first = other.first;
            rounds = other.rounds;
            System.arraycopy(other.kinds, 0, kinds, 0, MOST_ITEMS);
            System.arraycopy(other.numbers, 0, numbers, 0, MOST_ITEMS);
            System.arraycopy(other.guesses, 0, guesses, 0, MOST_ITEMS);
            System.arraycopy(other.frozen, 0, frozen, 0, MOST_ITEMS);
        }

        void beginAnew() {
            Arrays.fill(guesses, first);
            Arrays.fill(frozen, 0);
        }

        boolean holds(int item) {
            return item >= 0 && item < count;
        }

        boolean isReference(int item) {
            return kinds[item] >= REFERENCE && kinds[item] <= FOLLOWING;
        }

        boolean isOfKind(int item, int kind) {
            return kind == ANY_ITEM || kind == kinds[item]
                || kind == REFERENCE && isReference(item) || kind == WORD && kinds[item] == BREAK;
        }

        /** Whether an ITEM of this KIND may have this N. */
        boolean mayBeNumber(int kind, int n) {
            if (kind == BREAK) {
                return true;
            }
            return kind == WORD ? n >= 1 && n <= MOST_N : holds(n);
        }

        int wideBy(int[] pages, int item) {
            if (kinds[item] == WORD) {
                return numbers[item];
            }
            if (kinds[item] == BREAK) {
                return 0;
            }
            int told = numbers[item];
            int page = told >= 0 && told < count ? pages[told] : first;
            return Math.max(frozen[item], signsOf(kinds[item], page));
        }

        int signOf(int item, int j) {
            StringBuilder text = new StringBuilder();
            int page = holds(numbers[item]) ? guesses[numbers[item]] : first;
            if (kinds[item] == ROMAN) {
                appendRoman(text, page / 10, 'x', 'l', 'c');
                appendRoman(text, page % 10, 'i', 'v', 'x');
            } else {
                text.append(page);
            }
            if (kinds[item] == FOLLOWING) {
                text.append('f');
            }
            if (j >= 0 && j < text.length()) {
                return text.charAt(j);
            }
            return j < frozen[item] ? ' ' : NONE;
        }

        int frozenBits() {
            int bits = 0;
            for (int item = 0; item < count; item++) {
                if (frozen[item] > 0) {
                    bits |= 1 << item;
                }
            }
            return bits;
        }

        int lastGuess() {
            return count > 0 ? guesses[count - 1] : NONE;
        }

        private static int signsOf(int kind, int page) {
            if (kind == ROMAN) {
                return page >= 0 && page <= 99 ? ROMAN_SIGNS[page / 10] + ROMAN_SIGNS[page % 10] : 0;
            }
            int figures = page < 10 ? 1 : 2;
            return kind == FOLLOWING ? figures + 1 : figures;
        }

        private static void appendRoman(StringBuilder text, int figure, char one, char five, char ten) {
            if (figure % 5 == 4) {
                text.append(one).append(figure == 9 ? ten : five);
                return;
            }
            if (figure >= 5) {
                text.append(five);
            }
            for (int i = 0; i < figure % 5; i++) {
                text.append(one);
            }
        }
    }

    /** Where each ITEM STANDS. */
    private static final class Outline {
        static final int NOBODY = -1;

        final int[] pages = new int[MOST_ITEMS];
        final int[] lines = new int[MOST_ITEMS];
        final int[] columns = new int[MOST_ITEMS];

        /** Sets out with one ITEM, or NOBODY, taken as 1 wider than it is. */
        void setOut(Sheet sheet, int wider) {
            int page = sheet.first;
            int line = 0;
            int column = 0;
            for (int item = 0; item < sheet.count; item++) {
                boolean isBreak = sheet.kinds[item] == BREAK;
                int wide = sheet.wideBy(sheet.guesses, item) + (item == wider ? 1 : 0);
                if (!isBreak && column > 0 && column + wide > sheet.width) {
                    column = 0;
                    line++;
                    if (line >= sheet.lines) {
                        line = 0;
                        page++;
                    }
                }
                pages[item] = page;
                lines[item] = line;
                columns[item] = column;
                column += wide;
                if (isBreak) {
                    page++;
                    line = 0;
                    column = 0;
                }
            }
        }

        boolean hasElsewhere(int item, Outline other) {
            return pages[item] != other.pages[item] || lines[item] != other.lines[item]
                || columns[item] != other.columns[item];
        }
    }

    /** ROUNDS and TO SETTLE, with what is counted of the latest time. */
    private static final class Settling {
        static final int MOST_TO_SETTLE = 200, NO_RING = -1;

        final Outline outline = new Outline();
        final int[][] ahead = new int[MOST_TO_SETTLE][MOST_ITEMS];
        int kept;
        int rounds;
        int freezes;
        int firstRing;
        boolean atRest;

        Outline outlined(Sheet sheet) {
            outline.setOut(sheet, Outline.NOBODY);
            return outline;
        }

        /** A ROUND: how many GUESSES changed. */
        int goRound(Sheet sheet) {
            outline.setOut(sheet, Outline.NOBODY);
            int changed = 0;
            for (int item = 0; item < sheet.count; item++) {
                if (sheet.guesses[item] != outline.pages[item]) {
                    changed++;
                    sheet.guesses[item] = outline.pages[item];
                }
            }
            return changed;
        }

        /** TO SETTLE; who only asks whether it must FREEZE lets it stop at the first RING. */
        void bringToRest(Sheet sheet, boolean stopAtRing) {
            rounds = 0;
            freezes = 0;
            firstRing = 0;
            kept = 0;
            atRest = isAtRest(sheet);
            while (!atRest && rounds < MOST_TO_SETTLE) {
                keep(sheet);
                System.arraycopy(outline.pages, 0, sheet.guesses, 0, MOST_ITEMS);
                rounds++;
                int since = ringSince(sheet);
                if (since != NO_RING) {
                    freezeSince(sheet, since);
                    if (stopAtRing) {
                        return;
                    }
                }
                atRest = isAtRest(sheet);
            }
        }

        private void keep(Sheet sheet) {
            if (kept < ahead.length) {
                System.arraycopy(sheet.guesses, 0, ahead[kept], 0, MOST_ITEMS);
                kept++;
            }
        }

        /** The place of the latest GUESSES kept that are those of now, but for the one just ahead. */
        private int ringSince(Sheet sheet) {
            for (int since = kept - 2; since >= 0; since--) {
                if (areSame(sheet, ahead[since])) {
                    return since;
                }
            }
            return NO_RING;
        }

        private void freezeSince(Sheet sheet, int since) {
            for (int item = 0; item < sheet.count; item++) {
                freezeIfRestless(sheet, item, since);
            }
            freezes++;
            if (freezes == 1) {
                firstRing = kept - since;
            }
            kept = 0;
        }

        /** Words and breaks are as wide by all GUESSES, so that they stay as they are. */
        private void freezeIfRestless(Sheet sheet, int item, int since) {
            int least = sheet.wideBy(sheet.guesses, item);
            int greatest = least;
            for (int at = since; at < kept; at++) {
                int wide = sheet.wideBy(ahead[at], item);
                least = Math.min(least, wide);
                greatest = Math.max(greatest, wide);
            }
            if (least != greatest) {
                sheet.frozen[item] = greatest;
            }
        }

        private boolean isAtRest(Sheet sheet) {
            outline.setOut(sheet, Outline.NOBODY);
            return areSame(sheet, outline.pages);
        }

        private static boolean areSame(Sheet sheet, int[] pages) {
            for (int item = 0; item < sheet.count; item++) {
                if (sheet.guesses[item] != pages[item]) {
                    return false;
                }
            }
            return true;
        }
    }

    /** What is FORETOLD: it is tried on another SHEET, so that the one there is stays. */
    private static final class Foretelling {
        final Sheet live;
        final Sheet trial;
        final Settling settling;
        final Outline wider = new Outline();
        final int[] growing = new int[MOST_ITEMS];
        int expectedItem;
        int[] expected;
        int expectedFrom;
        int expectedRounds;

        Foretelling(Sheet live, Sheet trial, Settling settling) {
            this.live = live;
            this.trial = trial;
            this.settling = settling;
            this.expected = growing;
        }

        int guessBehind(int item, int n) {
            trial.takeFrom(live);
            for (int i = 0; i < n; i++) {
                settling.goRound(trial);
            }
            return trial.guesses[item];
        }

        int lying() {
            Outline now = settling.outlined(live);
            int bits = 0;
            for (int item = 0; item < live.count; item++) {
                int told = live.numbers[item];
                if (live.isReference(item) && live.holds(told) && live.guesses[told] != now.pages[told]) {
                    bits |= 1 << item;
                }
            }
            return bits;
        }

        int movedBy(int item) {
            Outline now = settling.outlined(live);
            wider.setOut(live, item);
            int bits = 0;
            for (int other = 0; other < live.count; other++) {
                if (wider.hasElsewhere(other, now)) {
                    bits |= 1 << other;
                }
            }
            return bits;
        }

        int widestOf(int item) {
            int now = live.numbers[item];
            int last = lastPageWith(item, now);
            for (int n = MOST_N; n > now; n--) {
                if (lastPageWith(item, n) == last) {
                    return n;
                }
            }
            return now;
        }

        private int lastPageWith(int item, int n) {
            trial.takeFrom(live);
            trial.numbers[item] = n;
            trial.beginAnew();
            settling.bringToRest(trial, false);
            return trial.lastGuess();
        }

        int restlessFirst() {
            for (int first = 1; first <= MOST_FIRST; first++) {
                trial.takeFrom(live);
                trial.first = first;
                trial.beginAnew();
                settling.bringToRest(trial, true);
                if (settling.freezes > 0) {
                    return first;
                }
            }
            return NONE;
        }

        /** What a ROW tells of an ITEM, ahead of asking by what it is so. */
        void expect(int item, int[] values, int from, int n) {
            expectedItem = item;
            expected = values;
            expectedFrom = from;
            expectedRounds = n;
        }

        int kindsAsExpected() {
            int bits = 0;
            for (int kind = REFERENCE; kind <= BREAK; kind++) {
                trial.takeFrom(live);
                trial.kinds[expectedItem] = kind;
                if (trial.mayBeNumber(kind, trial.numbers[expectedItem]) && comesAsExpected()) {
                    bits |= 1 << kind;
                }
            }
            return bits;
        }

        int numbersAsExpected() {
            int bits = 0;
            for (int n = 0; n <= MOST_N; n++) {
                trial.takeFrom(live);
                trial.numbers[expectedItem] = n;
                if (trial.mayBeNumber(trial.kinds[expectedItem], n) && comesAsExpected()) {
                    bits |= 1 << n;
                }
            }
            return bits;
        }

        /** How many FIRSTS, or the least. */
        int firstsAsExpected(boolean many) {
            int sum = 0;
            for (int first = 1; first <= MOST_FIRST; first++) {
                trial.takeFrom(live);
                trial.first = first;
                if (comesAsExpected()) {
                    if (!many) {
                        return first;
                    }
                    sum++;
                }
            }
            return many ? sum : NONE;
        }

        private boolean comesAsExpected() {
            for (int i = 0; i < expectedRounds; i++) {
                int at = expectedFrom + i;
                settling.goRound(trial);
                if (at < 0 || at >= expected.length || trial.guesses[expectedItem] != expected[at]) {
                    return false;
                }
            }
            return true;
        }

        /** Of all growths, those by which it settles without a FREEZE, weighed in tenths. */
        long weightOfRest(int c) {
            int words = gatherGrowing();
            long sum = 0;
            for (int chosen = 0; chosen < 1 << words; chosen++) {
                long weight = weightOf(chosen, words, c);
                if (weight > 0 && settlesGrown(chosen, words)) {
                    sum += weight;
                }
            }
            return sum;
        }

        long weightOfAll() {
            int words = gatherGrowing();
            long all = 1;
            for (int i = 0; i < words; i++) {
                all *= 10;
            }
            return all;
        }

        /** Words of 20 cannot grow: both their ways are one, and cancel out of the fraction. */
        private int gatherGrowing() {
            int words = 0;
            for (int item = 0; item < live.count; item++) {
                if (live.kinds[item] == WORD && live.numbers[item] < MOST_N) {
                    growing[words] = item;
                    words++;
                }
            }
            return words;
        }

        private static long weightOf(int chosen, int words, int c) {
            long weight = 1;
            for (int i = 0; i < words; i++) {
                weight *= (chosen >> i & 1) == 1 ? c : 10 - c;
            }
            return weight;
        }

        private boolean settlesGrown(int chosen, int words) {
            trial.takeFrom(live);
            for (int i = 0; i < words; i++) {
                trial.numbers[growing[i]] += chosen >> i & 1;
            }
            trial.beginAnew();
            settling.bringToRest(trial, true);
            return settling.freezes == 0 && settling.atRest;
        }

        /** EDITS: after how many any GUESS changed; the trial SHEET is left as they made it. */
        int editsThatChange(int n, int seed) {
            trial.takeFrom(live);
            long x = seed;
            int changed = 0;
            for (int i = 0; i < n && trial.count > 0; i++) {
                x = x * 16807 % 2147483647;
                int item = (int) (x % trial.count);
                if (trial.kinds[item] == WORD) {
                    trial.numbers[item] = (int) (x % 20) + 1;
                } else if (trial.isReference(item)) {
                    trial.numbers[item] = item;
                }
                if (settling.goRound(trial) > 0) {
                    changed++;
                }
            }
            return changed;
        }
    }

    /** The SHEETS ahead of the ACTS that can be undone, of which the oldest gives way. */
    private static final class Past {
        static final int MOST_ACTS = 24;

        final Sheet[] sheets = new Sheet[MOST_ACTS];
        int oldest;
        int size;

        Past() {
            for (int i = 0; i < MOST_ACTS; i++) {
                sheets[i] = new Sheet();
            }
        }

        void remember(Sheet sheet) {
            sheets[(oldest + size) % MOST_ACTS].takeFrom(sheet);
            if (size < MOST_ACTS) {
                size++;
            } else {
                oldest = (oldest + 1) % MOST_ACTS;
            }
        }

        void bringBack(Sheet sheet) {
            if (size > 0) {
                size--;
                sheet.takeFrom(sheets[(oldest + size) % MOST_ACTS]);
            }
        }

        void forget() {
            size = 0;
        }
    }

    /** Reads a tape TOKEN by TOKEN, up to the first FAULT. */
    private static final class Reader {
        static final int UNFIT = 1, WRONG_NUMBER = 2, NO_ROOM = 3, NO_SUCH_ITEM = 4;

        int[] tape = new int[0];
        int length;
        int place;
        int fault;

        /** Whether it is a SHEET, which comes into the one given; else fault and place tell why not. */
        boolean reads(int[] bytes, int many, Sheet sheet) {
            tape = bytes;
            length = Math.min(many, bytes.length);
            place = 0;
            fault = 0;
            sheet.count = 0;
            sheet.rounds = 0;
            readLaw(sheet);
            // Each item takes two bytes or more, so that there are fewer than bytes.
            for (int i = 0; i < length && fault == 0 && (place < length || sheet.count == 0); i++) {
                readItem(sheet);
            }
            lookAtReferences(sheet);
            sheet.beginAnew();
            return fault == 0;
        }

        private void readLaw(Sheet sheet) {
            readSign('w');
            sheet.width = readNumber(LEAST_WIDTH, MOST_WIDTH);
            readSign(',');
            sheet.lines = readNumber(1, MOST_LINES);
            readSign(',');
            sheet.first = readNumber(1, MOST_FIRST);
            readSign(';');
        }

        private void readItem(Sheet sheet) {
            int kind = kindOf(place < length ? tape[place] : ' ');
            if (kind == NONE) {
                fault = UNFIT;
                return;
            }
            if (sheet.count >= MOST_ITEMS) {
                fault = NO_ROOM;
                return;
            }
            place++;
            sheet.kinds[sheet.count] = kind;
            sheet.numbers[sheet.count] = readNumberOf(kind);
            sheet.count++;
            readSign(';');
        }

        private int readNumberOf(int kind) {
            if (kind == BREAK) {
                return 0;
            }
            return kind == WORD ? readNumber(1, MOST_N) : readNumber(0, MOST_ITEMS - 1);
        }

        private void readSign(char sign) {
            if (fault != 0) {
                return;
            }
            if (place < length && tape[place] == sign) {
                place++;
            } else {
                fault = UNFIT;
            }
        }

        private int readNumber(int least, int most) {
            if (fault != 0) {
                return 0;
            }
            int end = place;
            int number = 0;
            while (end < length && end < place + 3 && tape[end] >= '0' && tape[end] <= '9') {
                number = number * 10 + tape[end] - '0';
                end++;
            }
            if (end == place || end == place + 3) {
                fault = UNFIT;
            } else if (number < least || number > most) {
                fault = WRONG_NUMBER;
            } else {
                place = end;
            }
            return number;
        }

        private void lookAtReferences(Sheet sheet) {
            for (int item = 0; item < sheet.count && fault == 0; item++) {
                if (!sheet.mayBeNumber(sheet.kinds[item], sheet.numbers[item])) {
                    fault = NO_SUCH_ITEM;
                }
            }
        }

        private static int kindOf(int letter) {
            switch (letter) {
                case 't':
                    return WORD;
                case 'k':
                    return BREAK;
                case 'r':
                    return REFERENCE;
                case 'm':
                    return ROMAN;
                case 'f':
                    return FOLLOWING;
                default:
                    return NONE;
            }
        }
    }

    /** The BODIES: each begins by leaving its number, then that of the nearer KIND begins within it. */
    private static final class Asking {
        final Sheet live;
        final int[] begun = new int[16];
        int traced;

        Asking(Sheet live) {
            this.live = live;
        }

        void clear() {
            traced = 0;
        }

        int sizeOfReference(int item) {
            boolean roman = live.kinds[item] == ROMAN;
            if (roman) {
                begin(12);
            }
            begin(11);
            int size = lentSize(item);
            size += markOfReference(item);
            return roman ? 0 - size : size;
        }

        int sizeOfWord(int item) {
            boolean isBreak = live.kinds[item] == BREAK;
            if (isBreak) {
                begin(14);
            }
            begin(13);
            int size = lentSize(item) - 100;
            return isBreak ? size * 2 : size;
        }

        int markOfReference(int item) {
            int kind = live.kinds[item];
            if (kind == FOLLOWING) {
                begin(22);
            } else if (kind == ROMAN) {
                begin(24);
            }
            begin(21);
            int mark = lentMark(item) + live.guesses[item];
            if (kind == FOLLOWING) {
                return mark - 1000;
            }
            return kind == ROMAN ? mark * 2 : mark;
        }

        int markOfWord(int item) {
            begin(23);
            int mark = lentMark(item);
            return mark - sizeOfWord(item);
        }

        private int lentSize(int item) {
            begin(10);
            return live.wideBy(live.guesses, item);
        }

        private int lentMark(int item) {
            begin(20);
            return item;
        }

        private void begin(int body) {
            if (traced < begun.length) {
                begun[traced] = body;
                traced++;
            }
        }
    }
}

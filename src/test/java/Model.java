import java.math.BigInteger;
import java.util.ArrayDeque;
import java.util.ArrayList;
import java.util.Arrays;
import java.util.Deque;
import java.util.List;
import java.util.TreeMap;

/** The document once more, written by its words with the whole Java library and no thought of speed. */
final class Model {
    static final int NONE = -1000000, BAD = -1000001, STATE = -1000002, FULL = -1000003;

    record Item(char letter, int n) {
        boolean refers() {
            return "rmf".indexOf(letter) >= 0;
        }
    }

    record Page(List<Item> items, List<Integer> guess, List<Integer> frozen, int[] law, int rounds) {
        Page with(List<Integer> guesses, List<Integer> ice) {
            return new Page(items, guesses, ice, law, rounds);
        }

        Page withItem(int at, Item item) {
            List<Item> changed = new ArrayList<>(items);
            changed.set(at, item);
            return new Page(changed, guess, frozen, law, rounds);
        }

        Page withLaw(int which, int v) {
            int[] other = law.clone();
            other[which] = v;
            return new Page(items, guess, frozen, other, rounds);
        }

        Page withRounds(int more) {
            return new Page(items, guess, frozen, law, rounds + more);
        }

        Page anew() {
            return with(java.util.Collections.nCopies(items.size(), law[2]),
                java.util.Collections.nCopies(items.size(), 0));
        }

        int size() {
            return items.size();
        }
    }

    record Rest(Page page, int rounds, int freezes, int ring, boolean settled) {
    }

    private final TreeMap<Integer, long[]> rows = new TreeMap<>();
    private final TreeMap<Integer, Integer> lanes = new TreeMap<>();
    private final List<Integer> tape = new ArrayList<>();
    private final Deque<Page> acts = new ArrayDeque<>();
    private final Page[] images = new Page[2];
    private List<Integer> trace = new ArrayList<>();
    private Page page;
    private int fault;
    private int status;

    // ---- rows

    private int found(int number) {
        status = number;
        return -1000010 - number;
    }

    private static boolean out(int v, int least, int most) {
        return v < least || v > most;
    }

    int row(int row, int lane, int n) {
        if (out(row, 0, 7) || out(lane, 0, 2) || n > 40) {
            return BAD;
        }
        if (n < 0) {
            return found(4);
        }
        rows.put(row, new long[n]);
        lanes.put(row, lane);
        status = 0;
        return n;
    }

    int set(int row, int i, int v) {
        if (out(row, 0, 7)) {
            return BAD;
        }
        if (!rows.containsKey(row)) {
            return found(1);
        }
        if (out(i, 0, rows.get(row).length - 1)) {
            return found(2);
        }
        int bits = 8 << lanes.get(row);
        long low = v & ((1L << bits) - 1);
        rows.get(row)[i] = low >= 1L << bits - 1 ? low - (1L << bits) : low;
        status = 0;
        return (int) rows.get(row)[i];
    }

    int copy(int a, int i, int b, int j, int n) {
        if (out(a, 0, 7) || out(b, 0, 7)) {
            return BAD;
        }
        if (!rows.containsKey(a) || !rows.containsKey(b)) {
            return found(1);
        }
        if (!lanes.get(a).equals(lanes.get(b))) {
            return found(5);
        }
        long[] from = rows.get(a).clone();
        long[] to = rows.get(b);
        if (i < 0 || j < 0 || n < 0 || (long) i + n > from.length || (long) j + n > to.length) {
            return found(2);
        }
        for (int k = 0; k < n; k++) {
            to[j + k] = from[i + k];
        }
        status = 0;
        return n;
    }

    int drop(int row) {
        if (out(row, 0, 7)) {
            return BAD;
        }
        if (!rows.containsKey(row)) {
            return found(1);
        }
        lanes.remove(row);
        status = 0;
        return rows.remove(row).length;
    }

    // ---- sheets, acts

    int feed(int letter) {
        if (out(letter, 0, 255)) {
            return BAD;
        }
        if (tape.size() == 80) {
            return FULL;
        }
        tape.add(letter);
        return tape.size();
    }

    private record Token(int place, String text) {
        int number() {
            return text.matches("[0-9]{1,2}") ? Integer.parseInt(text) : -1;
        }
    }

    private static final class Fault extends Exception {
        private static final long serialVersionUID = 1;
        final int number;
        final int place;

        Fault(int number, int place) {
            this.number = number;
            this.place = place;
        }
    }

    private List<Token> tokens() {
        List<Token> all = new ArrayList<>();
        StringBuilder text = new StringBuilder();
        for (int b : tape) {
            text.append((char) b);
        }
        java.util.regex.Matcher m = java.util.regex.Pattern.compile("[0-9]+|(?s:.)").matcher(text);
        while (m.find()) {
            all.add(new Token(m.start(), m.group()));
        }
        all.add(new Token(text.length(), "END"));
        return all;
    }

    private static void need(Token t, String text) throws Fault {
        if (!t.text().equals(text)) {
            throw new Fault(1, t.place());
        }
    }

    private static int need(Token t, int least, int most) throws Fault {
        if (t.number() < 0) {
            throw new Fault(1, t.place());
        }
        if (out(t.number(), least, most)) {
            throw new Fault(2, t.place());
        }
        return t.number();
    }

    private Page read() throws Fault {
        List<Token> all = tokens();
        int at = 0;
        int[] law = new int[3];
        int[][] range = {{4, 20}, {1, 5}, {1, 87}};
        String[] before = {"w", ",", ","};
        for (int k = 0; k < 3; k++) {
            need(all.get(at++), before[k]);
            law[k] = need(all.get(at++), range[k][0], range[k][1]);
        }
        need(all.get(at++), ";");
        List<Item> items = new ArrayList<>();
        while (items.isEmpty() || at < all.size() - 1) {
            Token letter = all.get(at++);
            if (!letter.text().matches("[tkrmf]")) {
                throw new Fault(1, letter.place());
            }
            if (items.size() == 12) {
                throw new Fault(3, letter.place());
            }
            int n = 0;
            if (letter.text().equals("t")) {
                n = need(all.get(at++), 1, 20);
            } else if (!letter.text().equals("k")) {
                n = need(all.get(at++), 0, 11);
            }
            need(all.get(at++), ";");
            items.add(new Item(letter.text().charAt(0), n));
        }
        for (Item item : items) {
            if (item.refers() && item.n() >= items.size()) {
                throw new Fault(4, tape.size());
            }
        }
        return new Page(items, null, null, law, 0).anew();
    }

    int sheet() {
        try {
            page = read();
            acts.clear();
            return page.size();
        } catch (Fault f) {
            fault = f.number;
            return -1000100 - f.place;
        } finally {
            tape.clear();
        }
    }

    int fault() {
        return fault;
    }

    private static String roman(int page) {
        String[] tens = {"", "x", "xx", "xxx", "xl", "l", "lx", "lxx", "lxxx", "xc"};
        String[] ones = {"", "i", "ii", "iii", "iv", "v", "vi", "vii", "viii", "ix"};
        return tens[page / 10] + ones[page % 10];
    }

    private static String printed(Page p, List<Integer> guess, int item) {
        Item it = p.items().get(item);
        int told = guess.get(it.n());
        return it.letter() == 'm' ? roman(told) : it.letter() == 'f' ? told + "f" : "" + told;
    }

    private static int wide(Page p, List<Integer> guess, int item) {
        Item it = p.items().get(item);
        if (it.letter() == 't') {
            return it.n();
        }
        return it.letter() == 'k' ? 0 : Math.max(printed(p, guess, item).length(), p.frozen().get(item));
    }

    /** PAGE, LINE, COLUMN of each, by counting LINES through from the first of PAGE 0. */
    private static int[][] stands(Page p, int wider) {
        int[][] all = new int[p.size()][];
        int lines = p.law()[1];
        int line = p.law()[2] * lines;
        int signs = 0;
        for (int i = 0; i < p.size(); i++) {
            if (p.items().get(i).letter() == 'k') {
                all[i] = new int[] {line / lines, line % lines, signs};
                line = (line / lines + 1) * lines;
                signs = 0;
                continue;
            }
            int w = wide(p, p.guess(), i) + (i == wider ? 1 : 0);
            if (signs != 0 && signs + w > p.law()[0]) {
                line++;
                signs = 0;
            }
            all[i] = new int[] {line / lines, line % lines, signs};
            signs += w;
        }
        return all;
    }

    private static Page next(Page p) {
        List<Integer> guess = new ArrayList<>();
        for (int[] s : stands(p, -1)) {
            guess.add(s[0]);
        }
        return p.with(guess, p.frozen());
    }

    private static Page next(Page p, int n) {
        for (int i = 0; i < n; i++) {
            p = next(p);
        }
        return p;
    }

    private static Rest rest(Page p) {
        List<List<Integer>> seen = new ArrayList<>();
        seen.add(p.guess());
        int rounds = 0;
        int freezes = 0;
        int ring = 0;
        while (rounds < 200 && !next(p).guess().equals(p.guess())) {
            p = next(p);
            rounds++;
            int at = seen.lastIndexOf(p.guess());
            if (at < 0) {
                seen.add(p.guess());
                continue;
            }
            List<List<Integer>> around = seen.subList(at, seen.size());
            freezes++;
            ring = ring == 0 ? around.size() : ring;
            p = freeze(p, around);
            seen = new ArrayList<>();
            seen.add(p.guess());
        }
        return new Rest(p, rounds, freezes, ring, next(p).guess().equals(p.guess()));
    }

    private static Page freeze(Page p, List<List<Integer>> around) {
        List<Integer> frozen = new ArrayList<>(p.frozen());
        for (int i = 0; i < p.size(); i++) {
            java.util.TreeSet<Integer> widths = new java.util.TreeSet<>();
            for (List<Integer> guess : around) {
                widths.add(wide(p, guess, i));
            }
            if (widths.size() > 1) {
                frozen.set(i, widths.last());
            }
        }
        return p.with(p.guess(), frozen);
    }

    private void act() {
        acts.addLast(page);
        if (acts.size() > 24) {
            acts.removeFirst();
        }
    }

    int round() {
        if (page == null) {
            return STATE;
        }
        if (page.rounds() >= 9999) {
            return FULL;
        }
        act();
        Page then = next(page).withRounds(1);
        int changed = 0;
        for (int i = 0; i < page.size(); i++) {
            changed += then.guess().get(i).equals(page.guess().get(i)) ? 0 : 1;
        }
        page = then;
        return changed;
    }

    int settle() {
        if (page == null) {
            return STATE;
        }
        Rest r = rest(page);
        if (page.rounds() + r.rounds() > 9999) {
            return FULL;
        }
        act();
        page = r.page().withRounds(r.rounds());
        return r.rounds();
    }

    private boolean absent(int item) {
        return page == null || out(item, 0, page.size() - 1);
    }

    int number(int item, int n) {
        if (absent(item)) {
            return BAD;
        }
        Item it = page.items().get(item);
        if (it.letter() == 'k' || it.letter() == 't' && out(n, 1, 20) || it.refers() && absent(n)) {
            return BAD;
        }
        act();
        page = page.withItem(item, new Item(it.letter(), n));
        return it.n();
    }

    int rule(int which, int v) {
        if (page == null) {
            return STATE;
        }
        int[][] range = {{4, 20}, {1, 5}, {1, 87}};
        if (out(which, 0, 2) || out(v, range[which][0], range[which][1])) {
            return BAD;
        }
        act();
        int was = page.law()[which];
        page = page.withLaw(which, v);
        return was;
    }

    private static int bits(List<Integer> frozen) {
        int bits = 0;
        for (int i = 0; i < frozen.size(); i++) {
            bits += frozen.get(i) > 0 ? 1 << i : 0;
        }
        return bits;
    }

    int anew() {
        if (page == null) {
            return STATE;
        }
        act();
        int were = Integer.bitCount(bits(page.frozen()));
        page = page.anew();
        return were;
    }

    int undo() {
        if (acts.isEmpty()) {
            return STATE;
        }
        page = acts.removeLast();
        return acts.size();
    }

    int item(int item, int what) {
        if (absent(item) || out(what, 0, 6)) {
            return BAD;
        }
        int[] s = stands(page, -1)[item];
        return new int[] {page.items().get(item).n(), page.guess().get(item), page.frozen().get(item),
            wide(page, page.guess(), item), s[0], s[1], s[2]}[what];
    }

    int print(int item, int j) {
        if (absent(item) || !page.items().get(item).refers() || j < 0) {
            return BAD;
        }
        String text = printed(page, page.guess(), item);
        while (text.length() < page.frozen().get(item)) {
            text += " ";
        }
        return j < text.length() ? text.charAt(j) : NONE;
    }

    // ---- foretold

    int behind(int item, int n) {
        return absent(item) || out(n, 0, 60) ? BAD : next(page, n).guess().get(item);
    }

    int lies() {
        if (page == null) {
            return STATE;
        }
        int bits = 0;
        for (int i = 0; i < page.size(); i++) {
            int told = page.items().get(i).n();
            if (page.items().get(i).refers() && page.guess().get(told) != stands(page, -1)[told][0]) {
                bits |= 1 << i;
            }
        }
        return bits;
    }

    private static int last(Page p) {
        return p.guess().get(p.size() - 1);
    }

    int settled(int what) {
        if (page == null) {
            return STATE;
        }
        if (out(what, 0, 5)) {
            return BAD;
        }
        Rest r = rest(page);
        return new int[] {r.rounds(), r.freezes(), r.ring(), bits(r.page().frozen()), last(r.page()),
            r.settled() ? 1 : 0}[what];
    }

    int ends(int item) {
        return absent(item) ? BAD : rest(page).page().guess().get(item);
    }

    int moves(int item) {
        if (absent(item) || page.items().get(item).letter() == 'k') {
            return BAD;
        }
        int[][] now = stands(page, -1);
        int[][] then = stands(page, item);
        int bits = 0;
        for (int i = 0; i < page.size(); i++) {
            bits |= Arrays.equals(now[i], then[i]) ? 0 : 1 << i;
        }
        return bits;
    }

    int room(int item) {
        if (absent(item) || page.items().get(item).letter() != 't') {
            return BAD;
        }
        int now = page.items().get(item).n();
        int due = last(rest(page.anew()).page());
        int room = now;
        for (int n = now; n <= 20; n++) {
            if (last(rest(page.withItem(item, new Item('t', n)).anew()).page()) == due) {
                room = n;
            }
        }
        return room;
    }

    int restless() {
        if (page == null) {
            return STATE;
        }
        for (int first = 1; first <= 87; first++) {
            if (rest(page.withLaw(2, first).anew()).freezes() > 0) {
                return first;
            }
        }
        return NONE;
    }

    private static boolean so(Page p, int item, long[] told, int i, int n) {
        for (int k = 1; k <= n; k++) {
            if (next(p, k).guess().get(item) != told[i + k - 1]) {
                return false;
            }
        }
        return true;
    }

    private boolean may(char letter, int n) {
        return letter == 'k' || (letter == 't' ? n >= 1 : !absent(n));
    }

    int fits(int item, int row, int i, int n, int what) {
        if (absent(item) || out(row, 0, 7) || out(n, 1, 12) || out(what, 0, 3)) {
            return BAD;
        }
        if (!rows.containsKey(row)) {
            return found(1);
        }
        long[] told = rows.get(row);
        if (i < 0 || (long) i + n > told.length) {
            return found(2);
        }
        status = 0;
        Item it = page.items().get(item);
        int bits = 0;
        for (int k = 1; k <= 5 && what == 0; k++) {
            char letter = "rmftk".charAt(k - 1);
            boolean fit = may(letter, it.n()) && so(page.withItem(item, new Item(letter, it.n())), item, told, i, n);
            bits |= fit ? 1 << k : 0;
        }
        for (int k = 0; k <= 20 && what == 1; k++) {
            boolean fit = may(it.letter(), k) && so(page.withItem(item, new Item(it.letter(), k)), item, told, i, n);
            bits |= fit ? 1 << k : 0;
        }
        List<Integer> firsts = new ArrayList<>();
        for (int first = 1; first <= 87 && what >= 2; first++) {
            if (so(page.withLaw(2, first), item, told, i, n)) {
                firsts.add(first);
            }
        }
        return what < 2 ? bits : what == 2 ? firsts.size() : firsts.isEmpty() ? NONE : firsts.get(0);
    }

    long chance(int c, int what) {
        if (page == null) {
            return STATE;
        }
        if (out(c, 0, 10) || out(what, 0, 1)) {
            return BAD;
        }
        BigInteger above = above(page, 0, c);
        BigInteger below = BigInteger.ONE;
        for (Item item : page.items()) {
            below = item.letter() == 't' ? below.multiply(BigInteger.TEN) : below;
        }
        BigInteger common = above.gcd(below);
        return (what == 0 ? above : below).divide(common).longValueExact();
    }

    private static BigInteger above(Page p, int from, int c) {
        for (int i = from; i < p.size(); i++) {
            if (p.items().get(i).letter() == 't') {
                Item grown = new Item('t', Math.min(20, p.items().get(i).n() + 1));
                return above(p.withItem(i, grown), i + 1, c).multiply(BigInteger.valueOf(c))
                    .add(above(p, i + 1, c).multiply(BigInteger.valueOf(10 - c)));
            }
        }
        Rest r = rest(p.anew());
        return r.freezes() == 0 && r.settled() ? BigInteger.ONE : BigInteger.ZERO;
    }

    int drawn(int n, int seed, int what) {
        if (page == null) {
            return STATE;
        }
        if (out(n, 0, 60) || out(seed, 1, 999999) || out(what, 0, 1)) {
            return BAD;
        }
        Page p = page;
        BigInteger x = BigInteger.valueOf(seed);
        int changed = 0;
        for (int k = 0; k < n; k++) {
            x = x.multiply(BigInteger.valueOf(16807)).mod(BigInteger.valueOf(2147483647));
            int at = x.mod(BigInteger.valueOf(p.size())).intValue();
            Item it = p.items().get(at);
            int v = it.letter() == 't' ? x.mod(BigInteger.valueOf(20)).intValue() + 1
                : it.refers() ? x.mod(BigInteger.valueOf(p.size())).intValue() : it.n();
            p = p.withItem(at, new Item(it.letter(), v));
            Page then = next(p);
            changed += then.guess().equals(p.guess()) ? 0 : 1;
            p = then;
        }
        return what == 0 ? changed : last(p);
    }

    int image(int k) {
        if (out(k, 0, 1)) {
            return BAD;
        }
        if (page == null) {
            return STATE;
        }
        images[k] = page;
        return 1;
    }

    int restore(int k) {
        if (out(k, 0, 1)) {
            return BAD;
        }
        if (images[k] == null) {
            return STATE;
        }
        page = images[k];
        acts.clear();
        return 1;
    }

    // ---- asked

    int kind(int item) {
        return absent(item) ? BAD : 1 + "rmftk".indexOf(page.items().get(item).letter());
    }

    int as(int item, int kind) {
        if (absent(item) || out(kind, 0, 5)) {
            return BAD;
        }
        int[][] is = {{}, {0, 1}, {0, 1, 2}, {0, 1, 3}, {0, 4}, {0, 4, 5}};
        for (int k : is[kind(item)]) {
            if (k == kind) {
                status = 0;
                return item;
            }
        }
        return found(3);
    }

    /** The KINDS once more as classes, so that the machine itself picks the BODIES. */
    private class AnyItem {
        final int item;

        AnyItem(int item) {
            this.item = item;
        }

        void body(int number) {
            if (trace.size() < 16) {
                trace.add(number);
            }
        }

        int size() {
            body(10);
            return wide(page, page.guess(), item);
        }

        int mark() {
            body(20);
            return item;
        }
    }

    private class Reference extends AnyItem {
        Reference(int item) {
            super(item);
        }

        @Override
        int size() {
            body(11);
            return super.size() + mark();
        }

        @Override
        int mark() {
            body(21);
            return super.mark() + page.guess().get(item);
        }
    }

    private class Roman extends Reference {
        Roman(int item) {
            super(item);
        }

        @Override
        int size() {
            body(12);
            return -super.size();
        }

        @Override
        int mark() {
            body(24);
            return 2 * super.mark();
        }
    }

    private class Following extends Reference {
        Following(int item) {
            super(item);
        }

        @Override
        int mark() {
            body(22);
            return super.mark() - 1000;
        }
    }

    private class Word extends AnyItem {
        Word(int item) {
            super(item);
        }

        @Override
        int size() {
            body(13);
            return super.size() - 100;
        }

        @Override
        int mark() {
            body(23);
            return super.mark() - size();
        }
    }

    private class Break extends Word {
        Break(int item) {
            super(item);
        }

        @Override
        int size() {
            body(14);
            return 2 * super.size();
        }
    }

    int ask(int item, int what) {
        if (absent(item) || out(what, 0, 1)) {
            return BAD;
        }
        trace = new ArrayList<>();
        AnyItem[] all = {new Reference(item), new Roman(item), new Following(item), new Word(item), new Break(item)};
        AnyItem asked = all[kind(item) - 1];
        return what == 0 ? asked.size() : asked.mark();
    }

    int trace(int i) {
        return out(i, 0, trace.size() - 1) ? NONE : trace.get(i);
    }

    int count(int what) {
        if (out(what, 0, 8)) {
            return BAD;
        }
        boolean no = page == null;
        return new int[] {rows.size(), no ? 0 : page.size(), no ? 0 : page.law()[0], no ? 0 : page.law()[1],
            no ? 0 : page.law()[2], no ? 0 : bits(page.frozen()), no ? 0 : page.rounds(), acts.size(),
            tape.size()}[what];
    }

    int status() {
        return status;
    }
}

import java.lang.reflect.InvocationTargetException;
import java.lang.reflect.Method;
import java.util.Arrays;
import java.util.Random;
import java.util.TreeMap;

/** Long runs of drawn calls, ordinary and wild, on the class and on the model of the document. */
public final class ModelTests {
    private static final String[] CALLS = {
        "row", "set", "set", "copy", "drop", "fault", "round", "round", "settle", "settle", "number", "number",
        "rule", "rule", "anew", "undo", "item", "item", "print", "behind", "lies", "settled", "settled", "ends",
        "moves", "room", "restless", "fits", "fits", "chance", "drawn", "image", "restore", "kind", "as", "ask",
        "trace", "count", "count", "status", "status"};
    private static final int[] WILD = {
        Integer.MIN_VALUE, Integer.MAX_VALUE, -1, -2, 7, 8, 11, 12, 13, 20, 21, 40, 41, 60, 61, 87, 88, 255, 256,
        999999, 1000000, 65536, -1000001};
    private static final TreeMap<String, Method> REAL = methods(RefsSettle.class);
    private static final TreeMap<String, Method> DUE = methods(Model.class);
    private static final TreeMap<String, Integer> SEEN = new TreeMap<>();

    /** Sheets found by a search for many ROUNDS, many FREEZES and long RINGS. */
    private static final String[] HARD = {
        "w4,1,4;m11;m6;m2;m4;m7;m2;m8;m9;m10;m1;m11;m3;", "w4,1,2;r2;m8;f10;m3;m7;m7;m10;m9;r10;r8;m11;r9;",
        "w6,1,47;m4;m5;m7;f5;m11;m7;m6;m10;m8;m8;m9;m9;", "w5,1,5;m7;m11;m10;r9;m5;m4;m6;m9;m3;m2;m2;m8;",
        "w5,1,1;m10;m10;m8;m3;m2;m3;t3;m4;m11;m5;m11;m2;", "w4,1,1;m9;m10;m0;r9;m11;m4;m6;m3;m2;m6;m2;m1;",
        "w6,1,8;f11;m11;m8;m6;m7;m6;m7;m9;m8;m7;m1;m1;", "w6,1,13;m9;m7;m8;m11;m2;m8;f0;m9;m9;m11;r2;m5;",
        "w11,1,34;m8;m1;t5;m6;m9;m3;t2;m10;m7;m10;m2;m0;", "w5,1,5;t2;m6;m2;m8;m8;m7;m7;m3;t3;m5;"};

    private final Random random;
    private final RefsSettle real = new RefsSettle();
    private final Model model = new Model();
    private final StringBuilder told = new StringBuilder();
    private int calls;

    private ModelTests(long seed) {
        random = new Random(seed);
    }

    public static void main(String[] args) throws Exception {
        int runs = args.length > 0 ? Integer.parseInt(args[0]) : 1500;
        int from = args.length > 1 ? Integer.parseInt(args[1]) : 0;
        for (int run = from; run < from + runs && Check.isClean(); run++) {
            new ModelTests(run).go(run);
        }
        for (int run = 0; run < 3000 && Check.isClean(); run++) {
            new ModelTests(run).settleHardOnes(run);
        }
        System.out.println(SEEN);
        for (String must : new String[] {"ring 2", "freezes 1", "lies", "undone", "chance between", "fault 1",
            "fault 2", "fault 3", "fault 4", "finding 1", "finding 2", "finding 3", "finding 4", "finding 5",
            "full", "room between", "restless", "fits", "freezes 2", "freezes 3"}) {
            Check.due("runs that saw " + must, SEEN.containsKey(must) ? 1 : 0, 1);
        }
        Check.end();
    }

    private static TreeMap<String, Method> methods(Class<?> c) {
        TreeMap<String, Method> all = new TreeMap<>();
        for (Method m : c.getDeclaredMethods()) {
            boolean overload = Arrays.stream(CALLS).noneMatch(m.getName()::equals)
                && !m.getName().equals("feed") && !m.getName().equals("sheet");
            if (!overload) {
                all.put(m.getName(), m);
            }
        }
        return all;
    }

    private void go(int run) throws Exception {
        boolean early = random.nextInt(4) == 0;
        if (!early) {
            readSheet();
        }
        while (calls < 512 && Check.isClean()) {
            if (random.nextInt(60) == 0) {
                readSheet();
            } else {
                String name = CALLS[random.nextInt(CALLS.length)];
                call(name, arguments(name));
            }
        }
        if (!Check.isClean()) {
            System.out.println("run " + run + ":" + told);
        }
    }

    /** TO SETTLE of hard sheets, as they are and with a little changed, from GUESSES of all sorts. */
    private void settleHardOnes(int run) throws Exception {
        String text = HARD[run % HARD.length];
        for (int i = 0; i < text.length(); i++) {
            call("feed", text.charAt(i));
        }
        call("sheet");
        for (int i = 0; i < 30 && Check.isClean(); i++) {
            for (int what = 0; what <= 5; what++) {
                call("settled", what);
            }
            String[] acts = {"number", "number", "number", "rule", "round", "anew", "settle", "undo"};
            String act = acts[random.nextInt(acts.length)];
            call(act, arguments(act));
            if (i % 10 == 5) {
                call("restless");
                call("room", place());
                call("chance", upTo(10), upTo(1));
            }
        }
        if (!Check.isClean()) {
            System.out.println("hard run " + run + ":" + told);
        }
    }

    private long call(String name, int... with) throws Exception {
        Object[] arguments = Arrays.stream(with).boxed().toArray();
        long due = ((Number) DUE.get(name).invoke(model, arguments)).longValue();
        long got;
        try {
            got = ((Number) REAL.get(name).invoke(real, arguments)).longValue();
        } catch (InvocationTargetException e) {
            e.getCause().printStackTrace(System.out);
            got = Long.MIN_VALUE;
        }
        calls++;
        String told = name + Arrays.toString(with);
        this.told.append('\n').append(told).append(" = ").append(got);
        Check.due(told, got, due);
        note(name, with, due);
        return due;
    }

    private static void see(String what) {
        SEEN.merge(what, 1, Integer::sum);
    }

    private void note(String name, int[] with, long due) {
        if (due <= -1000100 && name.equals("sheet")) {
            see("fault " + model.fault());
        } else if (due < -1000010 && due > -1000020) {
            see("finding " + (-1000010 - due));
        } else if (due == Model.FULL) {
            see("full");
        } else if (due >= 0 && name.equals("settled") && with[0] <= 2 && due > 0) {
            see((with[0] == 0 ? "rounds " : with[0] == 1 ? "freezes " : "ring ") + due);
        } else if (due >= 0 && name.equals("undo")) {
            see("undone");
        } else if (due > 1 && name.equals("chance") && with[1] == 1) {
            see("chance between");
        } else if (due > 1 && due < 20 && name.equals("room")) {
            see("room between");
        } else if (due > 0) {
            see(name);
        }
    }

    private int wild() {
        return random.nextInt(8) == 0 ? random.nextInt() : WILD[random.nextInt(WILD.length)];
    }

    private int upTo(int most) {
        return random.nextInt(40) == 0 ? wild() : random.nextInt(most + 1);
    }

    private int place() {
        return upTo(Math.max(1, model.count(1) - (random.nextInt(10) == 0 ? 0 : 1)));
    }

    private int[] arguments(String name) {
        switch (name) {
            case "row":
                return new int[] {upTo(3), upTo(2), random.nextInt(20) == 0 ? -1 - random.nextInt(3) : upTo(40)};
            case "set":
                return new int[] {upTo(3), upTo(12), pageLike()};
            case "copy":
                return new int[] {upTo(3), upTo(6), upTo(3), upTo(6), upTo(10)};
            case "drop":
                return new int[] {upTo(7)};
            case "number":
                return new int[] {place(), upTo(random.nextBoolean() ? 20 : 6)};
            case "rule":
                int which = upTo(2);
                return new int[] {which, which == 0 ? 4 + upTo(9) : which == 1 ? 1 + upTo(2) : upTo(88)};
            case "item":
                return new int[] {place(), upTo(6)};
            case "print":
                return new int[] {place(), upTo(8)};
            case "behind":
                return new int[] {place(), random.nextBoolean() ? upTo(4) : upTo(60)};
            case "settled":
                return new int[] {upTo(5)};
            case "ends":
            case "moves":
            case "room":
            case "kind":
                return new int[] {place()};
            case "fits":
                return fitting();
            case "chance":
                return new int[] {upTo(10), upTo(1)};
            case "drawn":
                return new int[] {upTo(60), random.nextInt(20) == 0 ? wild() : 1 + random.nextInt(999999), upTo(1)};
            case "image":
            case "restore":
                return new int[] {upTo(1)};
            case "as":
                return new int[] {place(), upTo(5)};
            case "ask":
                return new int[] {place(), upTo(1)};
            case "trace":
                return new int[] {upTo(7)};
            case "count":
                return new int[] {upTo(8)};
            default:
                return new int[0];
        }
    }

    private int pageLike() {
        return random.nextInt(10) == 0 ? wild() : model.count(1) > 0 ? model.ends(0) + random.nextInt(3) : upTo(99);
    }

    /** Half of the rows tell what will come, so that some KINDS, NUMBERS and FIRSTS fit. */
    private int[] fitting() {
        int item = place();
        int row = upTo(3);
        int i = upTo(4);
        int n = random.nextBoolean() ? 1 + upTo(2) : upTo(12);
        if (random.nextBoolean() && model.count(1) > item && item >= 0 && n >= 1 && n <= 12 && i >= 0 && i <= 20) {
            try {
                row = random.nextInt(4);
                call("row", row, random.nextInt(3), 40);
                for (int k = 0; k < n; k++) {
                    call("set", row, i + k, model.behind(item, k + 1));
                }
            } catch (Exception e) {
                throw new IllegalStateException(e);
            }
        }
        return new int[] {item, row, i, n, upTo(3)};
    }

    private void readSheet() throws Exception {
        String text = text();
        if (random.nextInt(5) == 0) {
            text = spoilt(text);
        }
        for (int i = 0; i < text.length(); i++) {
            call("feed", random.nextInt(400) == 0 ? wild() : text.charAt(i));
        }
        call("sheet");
    }

    private String text() {
        int items = random.nextInt(5) == 0 ? 1 + random.nextInt(12) : 3 + random.nextInt(10);
        int[] firsts = {1, 2, 3, 7, 8, 9, 17, 18, 28, 36, 37, 38, 47, 48, 77, 78, 86, 87};
        StringBuilder text = new StringBuilder("w" + (4 + random.nextInt(random.nextInt(3) == 0 ? 17 : 6)) + ","
            + (1 + random.nextInt(random.nextInt(3) == 0 ? 5 : 2)) + ","
            + (random.nextBoolean() ? firsts[random.nextInt(firsts.length)] : 1 + random.nextInt(87)) + ";");
        int told = random.nextInt(15) == 0 ? 12 : items;
        String kinds = random.nextBoolean() ? "tttrrmmmmfk" : "tmmmmmmmrfm";
        for (int i = 0; i < items; i++) {
            char kind = kinds.charAt(random.nextInt(11));
            text.append(kind);
            if (kind == 't') {
                text.append(1 + random.nextInt(random.nextInt(6) == 0 ? 20 : 4));
            } else if (kind != 'k') {
                text.append(random.nextInt(told));
            }
            text.append(';');
        }
        return text.toString();
    }

    private String spoilt(String text) {
        StringBuilder spoilt = new StringBuilder(text);
        int at = random.nextInt(spoilt.length());
        switch (random.nextInt(6)) {
            case 0:
                spoilt.setCharAt(at, (char) random.nextInt(256));
                break;
            case 1:
                spoilt.deleteCharAt(at);
                break;
            case 2:
                spoilt.insert(at, "0123456789,;wtkrmfx ".charAt(random.nextInt(20)));
                break;
            case 3:
                spoilt.setLength(at);
                break;
            case 4:
                while (spoilt.length() < 83) {
                    spoilt.append("t1;");
                }
                break;
            default:
                spoilt.append("k;k;t1;k;k;r0;k;k;k;k;k;k;");
                break;
        }
        return spoilt.toString();
    }
}

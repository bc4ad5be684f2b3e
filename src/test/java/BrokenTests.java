import java.io.ByteArrayOutputStream;
import java.io.IOException;
import java.io.InputStream;
import java.io.OutputStream;
import java.lang.reflect.Method;
import java.net.URI;
import java.nio.file.Files;
import java.nio.file.Path;
import java.util.ArrayList;
import java.util.HashMap;
import java.util.List;
import java.util.Map;
import java.util.TreeSet;
import javax.tools.FileObject;
import javax.tools.ForwardingJavaFileManager;
import javax.tools.JavaCompiler;
import javax.tools.JavaFileManager;
import javax.tools.JavaFileObject;
import javax.tools.SimpleJavaFileObject;
import javax.tools.ToolProvider;

/** Breaks the class at one boundary after the other: by each a test named by that promise must fail. */
public final class BrokenTests {
    private static final Path SOURCE = Path.of("src/main/java/RefsSettle.java");
    private static final Class<?>[] EDGES = {EdgeRowTests.class, EdgeTapeTests.class, EdgeActTests.class,
        EdgeForetoldTests.class, EdgeAskedTests.class};
    private static final JavaCompiler COMPILER = ToolProvider.getSystemJavaCompiler();

    public static void main(String[] args) throws Exception {
        everyPromiseHasATest();
        String source = Files.readString(SOURCE);
        Check.same("the class as it is", failing(compiled(source), "").toString(), "[]");
        for (String[] broken : Breaks.ALL) {
            look(source, broken[0], broken[1], broken[2], broken[3]);
        }
        stopsInAnyCase(source);
        System.out.println(Breaks.ALL.length + " times broken");
        Check.end();
    }

    private static void everyPromiseHasATest() {
        TreeSet<String> numbers = new TreeSet<>();
        for (Class<?> edges : EDGES) {
            for (Method test : Edges.testsOf(edges, "promise")) {
                numbers.add(test.getName().substring(7, 9));
            }
        }
        Check.due("promises with tests of boundary cases", numbers.size(), 34);
    }

    /** The first text behind another one becomes a third, which the tests of a promise must find. */
    private static void look(String source, String promise, String behind, String text, String other)
        throws Exception {
        String told = promise + " broken: behind '" + behind + "' '" + text + "' is '" + other + "'";
        int from = source.indexOf(behind);
        int at = from < 0 ? -1 : source.indexOf(text, from);
        if (at < 0) {
            Check.due(told + ": there is no such text", 0, 1);
            return;
        }
        String broken = source.substring(0, at) + other + source.substring(at + text.length());
        Check.due(told + ": tests that fail", failing(compiled(broken), promise).isEmpty() ? 0 : 1, 1);
    }

    /** Names of the tests that fail with this class, of a promise or ("") of all. */
    private static List<String> failing(Map<String, byte[]> classes, String promise) throws Exception {
        List<String> names = new ArrayList<>();
        Fresh fresh = new Fresh(classes);
        Method failing = fresh.loadClass("Edges").getDeclaredMethod("failingQuietly", Class.class, String.class);
        failing.setAccessible(true);
        for (Class<?> edges : EDGES) {
            if (!Edges.testsOf(edges, "promise" + promise).isEmpty()) {
                Class<?> again = fresh.loadClass(edges.getName());
                for (Object name : (List<?>) failing.invoke(null, again, "promise" + promise)) {
                    names.add(name.toString());
                }
            }
        }
        return names;
    }

    /** No SHEET is known that takes 200 ROUNDS to settle: the stop is lowered, so that one of 54 comes to it. */
    private static void stopsInAnyCase(String source) throws Exception {
        String stop = "MOST_TO_SETTLE = ";
        Check.due("10: the stop is at 200", source.indexOf(stop + "200,") > 0 ? 1 : 0, 1);
        int[][] due = {{7, 7, 0}, {53, 53, 0}, {54, 54, 1}, {55, 54, 1}};
        for (int[] d : due) {
            Object x = new Fresh(compiled(source.replace(stop + "200", stop + d[0]))).loadClass("RefsSettle")
                .getConstructor().newInstance();
            for (char letter : Edges.LONG.toCharArray()) {
                call(x, "feed", letter);
            }
            call(x, "sheet");
            Check.due("19: ROUNDS with a stop at " + d[0], call(x, "settled", 0), d[1]);
            Check.due("19: SETTLED with a stop at " + d[0], call(x, "settled", 5), d[2]);
            for (int item = 0; item < 12 && d[0] == 7; item++) {
                Check.due("20: no RING by then", call(x, "ends", item), call(x, "behind", item, 7));
            }
            Check.due("10: ROUNDS with a stop at " + d[0], call(x, "settle"), d[1]);
            Check.due("10: counted", call(x, "count", 6), d[1]);
            Check.due("10: whether it goes on", call(x, "settled", 0) > 0 ? 0 : 1, d[2]);
        }
    }

    private static int call(Object x, String name, int... with) throws Exception {
        Class<?>[] types = new Class<?>[with.length];
        Object[] arguments = new Object[with.length];
        for (int i = 0; i < with.length; i++) {
            types[i] = int.class;
            arguments[i] = with[i];
        }
        return (Integer) x.getClass().getMethod(name, types).invoke(x, arguments);
    }

    private static Map<String, byte[]> compiled(String source) throws IOException {
        Map<String, ByteArrayOutputStream> made = new HashMap<>();
        JavaFileManager files = new ForwardingJavaFileManager<>(COMPILER.getStandardFileManager(null, null, null)) {
            @Override
            public JavaFileObject getJavaFileForOutput(Location place, String name, JavaFileObject.Kind kind,
                FileObject from) {
                return new SimpleJavaFileObject(URI.create("memory:///" + name), kind) {
                    @Override
                    public OutputStream openOutputStream() {
                        return made.computeIfAbsent(name, n -> new ByteArrayOutputStream());
                    }
                };
            }
        };
        JavaFileObject text = new SimpleJavaFileObject(URI.create("memory:///RefsSettle.java"),
            JavaFileObject.Kind.SOURCE) {
            @Override
            public CharSequence getCharContent(boolean ignored) {
                return source;
            }
        };
        boolean done = COMPILER.getTask(null, files, null, List.of("-proc:none"), null, List.of(text)).call();
        files.close();
        Check.due("it compiles", done ? 1 : 0, 1);
        Map<String, byte[]> classes = new HashMap<>();
        made.forEach((name, bytes) -> classes.put(name, bytes.toByteArray()));
        return classes;
    }

    /** Loads the tests once more, beside a class that is not the one they were compiled with. */
    private static final class Fresh extends ClassLoader {
        private final Map<String, byte[]> classes;

        Fresh(Map<String, byte[]> classes) {
            super(BrokenTests.class.getClassLoader());
            this.classes = classes;
        }

        @Override
        protected Class<?> loadClass(String name, boolean resolve) throws ClassNotFoundException {
            Class<?> known = findLoadedClass(name);
            if (known != null || name.indexOf('.') >= 0) {
                return known != null ? known : super.loadClass(name, resolve);
            }
            byte[] bytes = name.startsWith("RefsSettle") ? classes.get(name) : ofTest(name);
            if (bytes == null) {
                throw new ClassNotFoundException(name);
            }
            return defineClass(name, bytes, 0, bytes.length);
        }

        private byte[] ofTest(String name) throws ClassNotFoundException {
            try (InputStream in = getParent().getResourceAsStream(name + ".class")) {
                return in == null ? null : in.readAllBytes();
            } catch (IOException e) {
                throw new ClassNotFoundException(name, e);
            }
        }
    }
}

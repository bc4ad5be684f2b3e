import java.io.IOException;
import java.lang.reflect.Method;
import java.lang.reflect.Modifier;
import java.net.URL;
import java.net.URLClassLoader;
import java.nio.file.Files;
import java.nio.file.Path;
import java.util.ArrayList;
import java.util.Comparator;
import java.util.List;
import java.util.TreeSet;
import java.util.regex.Matcher;
import java.util.regex.Pattern;
import java.util.stream.Stream;
import javax.tools.ToolProvider;

/** What README.md shows: its calls are made and answer what it says, and its commands run. */
public final class ReadmeTests {
    private static final Path README = Path.of("README.md");
    private static final String CLASSES = "out/one";
    /** A call, and behind it the answer, up to a colon or the end of the line. */
    private static final Pattern CALL = Pattern.compile("(\\w[\\w.]*\\(.*\\));\\s+// ('.'|[^:]+?)(: .*)?");
    private static final Pattern MADE = Pattern.compile("RefsSettle \\w+ = new RefsSettle\\(\\);");

    private final List<String> calls = new ArrayList<>();
    private final List<String> answers = new ArrayList<>();
    private final StringBuilder helpers = new StringBuilder();
    private final StringBuilder body = new StringBuilder();

    public static void main(String[] args) throws Exception {
        Path place = Files.createTempDirectory("readme");
        try {
            ReadmeTests use = new ReadmeTests();
            use.gather();
            use.compare(place);
            use.everyCallStandsThere();
            use.everyRefusalStandsThere();
            commandsRun(place);
        } finally {
            clear(place);
        }
        Check.end();
    }

    /** The texts between fences of this language. */
    private static List<String> blocks(String language) throws IOException {
        List<String> all = new ArrayList<>();
        Matcher fences = Pattern.compile("^```" + language + "\n(.*?)^```$", Pattern.MULTILINE | Pattern.DOTALL)
            .matcher(Files.readString(README));
        while (fences.find()) {
            all.add(fences.group(1));
        }
        return all;
    }

    private void gather() throws IOException {
        for (String block : blocks("java")) {
            if (block.startsWith("static ")) {
                helpers.append(block);
            } else {
                block.lines().forEach(this::takeLine);
            }
        }
        Check.due("README.md: calls with an answer, some", calls.size() >= 34 ? 1 : 0, 1);
    }

    private void takeLine(String line) {
        Matcher call = CALL.matcher(line);
        if (call.matches()) {
            body.append("got[").append(calls.size()).append("] = ").append(call.group(1)).append(";\n");
            body.append("due[").append(calls.size()).append("] = ").append(call.group(2)).append(";\n");
            calls.add(call.group(1));
            answers.add(call.group(2));
        } else {
            Check.due("README.md: a call without an answer: " + line, MADE.matcher(line).matches() ? 0 : 1, 0);
            body.append(line).append('\n');
        }
    }

    private void compare(Path place) throws Exception {
        Path source = place.resolve("ReadmeUse.java");
        Files.writeString(source, "public final class ReadmeUse {\n" + helpers
            + "public static void use(long[] got, long[] due) {\n" + body + "}\n}\n");
        int failed = ToolProvider.getSystemJavaCompiler().run(null, null, null, "-proc:none", "-d", place.toString(),
            "-cp", System.getProperty("java.class.path"), source.toString());
        Check.due("README.md: its calls compile", failed, 0);
        if (failed != 0) {
            return;
        }
        long[] got = new long[calls.size()];
        long[] due = new long[calls.size()];
        try (URLClassLoader loader = new URLClassLoader(new URL[] {place.toUri().toURL()})) {
            loader.loadClass("ReadmeUse").getMethod("use", long[].class, long[].class).invoke(null, got, due);
        }
        for (int i = 0; i < got.length; i++) {
            Check.due("README.md, call " + i + ": " + calls.get(i), got[i], due[i]);
        }
    }

    private void everyCallStandsThere() {
        String all = calls.toString();
        for (Method method : RefsSettle.class.getDeclaredMethods()) {
            if (Modifier.isPublic(method.getModifiers())) {
                Check.due("README.md shows " + method.getName(),
                    all.contains("x." + method.getName() + "(") ? 1 : 0, 1);
            }
        }
    }

    private void everyRefusalStandsThere() {
        TreeSet<String> due = new TreeSet<>(List.of("RefsSettle.NONE", "RefsSettle.BAD", "RefsSettle.STATE",
            "RefsSettle.FULL", "-1000011", "-1000012", "-1000013", "-1000014", "-1000015"));
        due.removeAll(answers);
        Check.same("refusals and findings that README.md does not show", due.toString(), "[]");
    }

    /** All commands but the one that runs all tests, this one too; what they make comes to another place. */
    private static void commandsRun(Path place) throws Exception {
        int ran = 0;
        boolean tellsAll = false;
        for (String block : blocks("sh")) {
            if (block.equals(".ci/run\n")) {
                tellsAll = Files.isExecutable(Path.of(".ci/run"));
                continue;
            }
            Path classes = place.resolve("one" + ran);
            Process process = new ProcessBuilder("sh", "-e", "-c", block.replace(CLASSES, classes.toString()))
                .redirectErrorStream(true).start();
            String printed = new String(process.getInputStream().readAllBytes());
            int code = process.waitFor();
            if (code != 0) {
                System.out.print(printed);
            }
            Check.due("README.md: exit code of " + block, code, 0);
            ran++;
        }
        Check.due("README.md tells how to run all tests", tellsAll ? 1 : 0, 1);
        Check.due("README.md tells how to run one test", ran > 0 ? 1 : 0, 1);
    }

    private static void clear(Path place) throws IOException {
        List<Path> all;
        try (Stream<Path> found = Files.walk(place)) {
            all = found.sorted(Comparator.reverseOrder()).toList();
        }
        for (Path path : all) {
            Files.delete(path);
        }
    }
}

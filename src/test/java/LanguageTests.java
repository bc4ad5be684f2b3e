import com.sun.source.tree.ClassTree;
import com.sun.source.tree.CompilationUnitTree;
import com.sun.source.tree.ImportTree;
import com.sun.source.tree.MethodInvocationTree;
import com.sun.source.tree.MethodTree;
import com.sun.source.tree.NewClassTree;
import com.sun.source.tree.Tree;
import com.sun.source.tree.VariableTree;
import com.sun.source.util.JavacTask;
import com.sun.source.util.SourcePositions;
import com.sun.source.util.TreeScanner;
import com.sun.source.util.Trees;
import java.io.File;
import java.lang.management.ManagementFactory;
import java.lang.reflect.Constructor;
import java.lang.reflect.Field;
import java.lang.reflect.Member;
import java.lang.reflect.Method;
import java.lang.reflect.Modifier;
import java.nio.file.Files;
import java.nio.file.Path;
import java.util.ArrayList;
import java.util.EnumSet;
import java.util.List;
import java.util.Set;
import java.util.TreeMap;
import java.util.TreeSet;
import javax.lang.model.element.Name;
import javax.tools.JavaCompiler;
import javax.tools.StandardJavaFileManager;
import javax.tools.ToolProvider;

/** The face of the document, and those rules of LANGUAGE.md that a machine can look at. */
public final class LanguageTests {
    private static final Path SOURCE = Path.of("src/main/java/RefsSettle.java");
    private static final Path DOCUMENT = Path.of("../shared/DOC.md");
    private static final Set<Tree.Kind> FORBIDDEN = EnumSet.of(Tree.Kind.THROW, Tree.Kind.TRY, Tree.Kind.CATCH,
        Tree.Kind.SYNCHRONIZED, Tree.Kind.ASSERT, Tree.Kind.LAMBDA_EXPRESSION, Tree.Kind.MEMBER_REFERENCE);

    private static final TreeMap<String, TreeSet<String>> calls = new TreeMap<>();

    public static void main(String[] args) throws Exception {
        face();
        names();
        source();
        depth();
        signs();
        room();
        Check.end();
    }

    private static void none(String what, Object list) {
        if (!list.toString().equals("[]")) {
            System.out.println(what + ": " + list);
        }
        Check.due(what, list.toString().equals("[]") ? 0 : 1, 0);
    }

    /** Every line of the document's face has its member, and there are no others that can be seen. */
    private static void face() throws Exception {
        TreeSet<String> due = new TreeSet<>();
        boolean within = false;
        for (String line : Files.readAllLines(DOCUMENT)) {
            within = line.startsWith("public final class") || within && !line.equals("}");
            if (within && line.startsWith("    public ") && line.contains("(")) {
                due.add(line.strip().replaceAll("(int|long) \\w+(?=[,)])", "$1").replace(";", "").replace(", ", ","));
            }
        }
        Check.due("lines of the face", due.size(), 34);
        TreeSet<String> has = new TreeSet<>();
        for (Method m : RefsSettle.class.getDeclaredMethods()) {
            if (!Modifier.isPrivate(m.getModifiers())) {
                has.add(m.toString().replace("RefsSettle.", ""));
            }
        }
        for (Constructor<?> c : RefsSettle.class.getDeclaredConstructors()) {
            has.add(c.toString());
        }
        Check.same("the face", has.toString(), due.toString());
        TreeSet<String> fields = new TreeSet<>();
        for (Field f : RefsSettle.class.getDeclaredFields()) {
            if (!Modifier.isPrivate(f.getModifiers())) {
                fields.add(Modifier.toString(f.getModifiers()) + " " + f.getName());
            }
        }
        Check.same("constants", fields.toString(), "[public static final BAD, public static final FULL, "
            + "public static final NONE, public static final STATE]");
        Check.due("a public final class", RefsSettle.class.getModifiers(), Modifier.PUBLIC | Modifier.FINAL);
    }

    private static void names() {
        TreeSet<String> face = new TreeSet<>();
        for (Method m : RefsSettle.class.getMethods()) {
            face.add(m.getName());
        }
        List<String> wrong = new ArrayList<>();
        List<Member> members = new ArrayList<>(List.of(RefsSettle.class.getDeclaredMethods()));
        for (Class<?> c : RefsSettle.class.getDeclaredClasses()) {
            members.addAll(List.of(c.getDeclaredMethods()));
            int mode = c.getModifiers();
            if (!Modifier.isStatic(mode) || Modifier.isPublic(mode) || Modifier.isProtected(mode)) {
                wrong.add(c.getName());
            }
            if (c.getDeclaredFields().length > 20) {
                wrong.add(c.getName() + " has many fields");
            }
        }
        for (Member m : members) {
            if (!Modifier.isPublic(m.getModifiers()) && face.contains(m.getName())) {
                wrong.add(m.getDeclaringClass().getName() + "." + m.getName());
            }
        }
        none("names of the face within, and classes that are not as told", wrong);
        Check.due("classes", RefsSettle.class.getDeclaredClasses().length <= 11 ? 1 : 0, 1);
    }

    private static void source() throws Exception {
        JavaCompiler compiler = ToolProvider.getSystemJavaCompiler();
        try (StandardJavaFileManager files = compiler.getStandardFileManager(null, null, null)) {
            JavacTask task = (JavacTask) compiler.getTask(null, files, null, null, null,
                files.getJavaFileObjects(new File(SOURCE.toString())));
            CompilationUnitTree unit = task.parse().iterator().next();
            List<String> wrong = new ArrayList<>();
            for (ImportTree i : unit.getImports()) {
                if (!i.getQualifiedIdentifier().toString().matches("java\\.util\\.(Arrays|ArrayList|List)")) {
                    wrong.add(i.toString());
                }
            }
            new Rules(unit, Trees.instance(task).getSourcePositions(), wrong).scan(unit, null);
            none("against the rules", wrong);
        }
    }

    private static final class Rules extends TreeScanner<Void, Void> {
        private final CompilationUnitTree unit;
        private final SourcePositions places;
        private final List<String> wrong;
        private String method = "";

        Rules(CompilationUnitTree unit, SourcePositions places, List<String> wrong) {
            this.unit = unit;
            this.places = places;
            this.wrong = wrong;
        }

        private long line(long place) {
            return unit.getLineMap().getLineNumber(place);
        }

        @Override
        public Void scan(Tree tree, Void nothing) {
            if (tree != null && FORBIDDEN.contains(tree.getKind())) {
                wrong.add(tree.getKind() + " at " + line(places.getStartPosition(unit, tree)));
            }
            return super.scan(tree, nothing);
        }

        @Override
        public Void visitMethod(MethodTree tree, Void nothing) {
            method = tree.getName().toString();
            long lines = line(places.getEndPosition(unit, tree)) - line(places.getStartPosition(unit, tree)) + 1;
            if (lines > 60 || tree.getParameters().size() > 7) {
                wrong.add(method + " is long: " + lines);
            }
            return super.visitMethod(tree, nothing);
        }

        @Override
        public Void visitMethodInvocation(MethodInvocationTree tree, Void nothing) {
            String[] parts = tree.getMethodSelect().toString().split("\\.");
            calls.computeIfAbsent(method, m -> new TreeSet<>()).add(parts[parts.length - 1]);
            return super.visitMethodInvocation(tree, nothing);
        }

        @Override
        public Void visitNewClass(NewClassTree tree, Void nothing) {
            if (tree.getClassBody() != null) {
                wrong.add("a class without a name at " + line(places.getStartPosition(unit, tree)));
            }
            return super.visitNewClass(tree, nothing);
        }

        @Override
        public Void visitClass(ClassTree tree, Void nothing) {
            Name name = tree.getSimpleName();
            for (Tree member : tree.getMembers()) {
                if (member.getKind() == Tree.Kind.BLOCK) {
                    wrong.add("a block of its own in " + name);
                }
                if (member instanceof VariableTree v && v.getModifiers().getFlags().contains(
                    javax.lang.model.element.Modifier.STATIC)
                    && !v.getModifiers().getFlags().contains(javax.lang.model.element.Modifier.FINAL)) {
                    wrong.add("static " + v.getName());
                }
            }
            return super.visitClass(tree, nothing);
        }
    }

    private static int below(String method, int open) {
        if (open > 30) {
            return 100;
        }
        int most = 0;
        for (String called : calls.getOrDefault(method, new TreeSet<>())) {
            most = Math.max(most, below(called, open + 1));
        }
        return most + 1;
    }

    private static void depth() {
        List<String> deep = new ArrayList<>();
        for (String method : calls.keySet()) {
            if (below(method, 0) > 8) {
                deep.add(method + " " + below(method, 0));
            }
        }
        none("calls that go more than eight deep, or round", deep);
    }

    private static void signs() throws Exception {
        List<Integer> wrong = new ArrayList<>();
        for (byte b : Files.readAllBytes(SOURCE)) {
            if (b != '\n' && (b < 32 || b > 126)) {
                wrong.add((int) b);
            }
        }
        none("signs beyond the plain ones", wrong);
    }

    /** The dearest calls, over and over, make next to nothing: what they need was made with the object. */
    private static void room() {
        com.sun.management.ThreadMXBean bean = (com.sun.management.ThreadMXBean) ManagementFactory.getThreadMXBean();
        dearCalls(bean, 20);
        long made = dearCalls(bean, 400);
        System.out.println(made + " bytes made by 400 times the dearest calls");
        Check.due("bytes made are few", made < 400 * 100 ? 1 : 0, 1);
    }

    private static long dearCalls(com.sun.management.ThreadMXBean bean, int times) {
        RefsSettle x = new RefsSettle();
        String text = "w4,1,8;t1;m2;t1;r0;t3;f1;t2;m4;";
        for (int i = 0; i < text.length(); i++) {
            x.feed(text.charAt(i));
        }
        x.sheet();
        x.row(0, 0, 12);
        long before = bean.getThreadAllocatedBytes(Thread.currentThread().getId());
        for (int i = 0; i < times; i++) {
            x.chance(5, 0);
            x.restless();
            x.room(0);
            x.settle();
            x.anew();
            x.undo();
            x.fits(0, 0, 0, 12, 2);
            x.drawn(60, 7, 0);
            x.behind(0, 60);
            x.print(1, 2);
            x.image(0);
            x.restore(0);
            x.ask(1, 0);
            x.row(1, 2, 40);
        }
        return bean.getThreadAllocatedBytes(Thread.currentThread().getId()) - before;
    }
}

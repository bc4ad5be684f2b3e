import com.sun.source.tree.ArrayAccessTree;
import com.sun.source.tree.AssignmentTree;
import com.sun.source.tree.BinaryTree;
import com.sun.source.tree.CompilationUnitTree;
import com.sun.source.tree.MethodInvocationTree;
import com.sun.source.tree.NewArrayTree;
import com.sun.source.tree.NewClassTree;
import com.sun.source.tree.Tree;
import com.sun.source.tree.TypeCastTree;
import com.sun.source.tree.VariableTree;
import com.sun.source.util.JavacTask;
import com.sun.source.util.TreePath;
import com.sun.source.util.TreePathScanner;
import com.sun.source.util.Trees;
import java.io.File;
import java.util.List;
import java.util.Set;
import java.util.TreeSet;
import javax.lang.model.element.Element;
import javax.lang.model.element.ElementKind;
import javax.lang.model.element.Modifier;
import javax.lang.model.type.ArrayType;
import javax.lang.model.type.TypeMirror;
import javax.tools.JavaCompiler;
import javax.tools.StandardJavaFileManager;
import javax.tools.ToolProvider;

/** Rules 3, 4, 5, 6 and 10 of LANGUAGE.md: what the class uses of the library, its types, its static fields. */
public final class LibraryTests {
    private static final File SOURCE = new File("src/main/java/RefsSettle.java");
    /** Those of rule 4 that the class uses; whoever uses another one reads rule 4 and puts it here. */
    private static final Set<String> LIBRARY = Set.of("java.lang.Math.max(int,int)", "java.lang.Math.min(int,int)",
        "java.lang.Integer.bitCount(int)", "java.util.Arrays.fill(int[],int)",
        "java.lang.System.arraycopy(java.lang.Object,int,java.lang.Object,int,int)",
        "java.lang.StringBuilder.StringBuilder()", "java.lang.StringBuilder.append(char)",
        "java.lang.StringBuilder.append(int)", "java.lang.StringBuilder.charAt(int)",
        "java.lang.StringBuilder.length()");

    public static void main(String[] args) throws Exception {
        JavaCompiler compiler = ToolProvider.getSystemJavaCompiler();
        try (StandardJavaFileManager files = compiler.getStandardFileManager(null, null, null)) {
            JavacTask task = (JavacTask) compiler.getTask(null, files, null, List.of("-proc:none"), null,
                files.getJavaFileObjects(SOURCE));
            CompilationUnitTree unit = task.parse().iterator().next();
            task.analyze();
            Uses uses = new Uses(Trees.instance(task));
            uses.scan(new TreePath(unit), null);
            Check.same("beyond LANGUAGE.md", uses.wrong.toString(), "[]");
            Check.same("library that is no longer used", missing(uses.library).toString(), "[]");
        }
        Check.end();
    }

    private static Set<String> missing(Set<String> used) {
        Set<String> left = new TreeSet<>(LIBRARY);
        left.removeAll(used);
        return left;
    }

    private static final class Uses extends TreePathScanner<Void, Void> {
        final Set<String> wrong = new TreeSet<>();
        final Set<String> library = new TreeSet<>();
        private final Trees trees;

        Uses(Trees trees) {
            this.trees = trees;
        }

        private TypeMirror typeOf(Tree tree) {
            return trees.getTypeMirror(new TreePath(getCurrentPath(), tree));
        }

        private static boolean isOwn(String name) {
            return name.equals("RefsSettle") || name.startsWith("RefsSettle.");
        }

        private static boolean isOfObject(String owner, Element called) {
            return owner.equals("java.lang.Object") && called.getKind() == ElementKind.CONSTRUCTOR;
        }

        /** Each constructor without one calls that of Object, which no line of the class says. */
        private void takeCall() {
            Element called = trees.getElement(getCurrentPath());
            String owner = called == null ? "?" : called.getEnclosingElement().toString();
            if (!isOwn(owner) && !isOfObject(owner, called)) {
                String name = owner + "." + (called == null ? "?" : called.toString());
                library.add(name.replace("java.lang.AbstractStringBuilder", "java.lang.StringBuilder"));
            }
        }

        @Override
        public Void visitCompilationUnit(CompilationUnitTree tree, Void nothing) {
            super.visitCompilationUnit(tree, nothing);
            for (String used : library) {
                if (!LIBRARY.contains(used)) {
                    wrong.add(used);
                }
            }
            return null;
        }

        @Override
        public Void visitMethodInvocation(MethodInvocationTree tree, Void nothing) {
            takeCall();
            return super.visitMethodInvocation(tree, nothing);
        }

        @Override
        public Void visitNewClass(NewClassTree tree, Void nothing) {
            takeCall();
            return super.visitNewClass(tree, nothing);
        }

        @Override
        public Void visitVariable(VariableTree tree, Void nothing) {
            Element variable = trees.getElement(getCurrentPath());
            TypeMirror type = variable.asType();
            if (!isAllowed(type)) {
                wrong.add(tree + " is of another type");
            }
            if (variable.getKind() == ElementKind.FIELD && variable.getModifiers().contains(Modifier.STATIC)
                && !isConstant(type.toString(), tree.getInitializer(), variable)) {
                wrong.add(tree + " is no constant");
            }
            return super.visitVariable(tree, nothing);
        }

        private static boolean isAllowed(TypeMirror type) {
            if (type instanceof ArrayType array && array.getComponentType() instanceof ArrayType inner) {
                return inner.getComponentType().getKind().isPrimitive();
            }
            if (type instanceof ArrayType array) {
                return array.getComponentType().getKind().isPrimitive() || isOwn(array.getComponentType().toString());
            }
            return type.getKind().isPrimitive() || isOwn(type.toString())
                || Set.of("java.lang.String", "java.lang.StringBuilder").contains(type.toString());
        }

        private static boolean isConstant(String type, Tree initializer, Element variable) {
            boolean isFinal = variable.getModifiers().contains(Modifier.FINAL);
            if (Set.of("int", "long", "boolean", "char", "java.lang.String").contains(type)) {
                return isFinal && initializer != null;
            }
            return isFinal && Set.of("int[]", "long[]", "char[]", "byte[]").contains(type)
                && initializer instanceof NewArrayTree made && made.getInitializers() != null;
        }

        @Override
        public Void visitAssignment(AssignmentTree tree, Void nothing) {
            if (tree.getVariable() instanceof ArrayAccessTree access) {
                Element array = trees.getElement(new TreePath(getCurrentPath(), access.getExpression()));
                if (array != null && array.getModifiers().contains(Modifier.STATIC)) {
                    wrong.add(tree + " changes a constant");
                }
            }
            return super.visitAssignment(tree, nothing);
        }

        @Override
        public Void visitTypeCast(TypeCastTree tree, Void nothing) {
            if (!typeOf(tree.getType()).getKind().isPrimitive()) {
                wrong.add(tree + " is a cast that may throw");
            }
            return super.visitTypeCast(tree, nothing);
        }

        @Override
        public Void visitBinary(BinaryTree tree, Void nothing) {
            if (typeOf(tree.getLeftOperand()).toString().equals("java.lang.String")
                || typeOf(tree.getRightOperand()).toString().equals("java.lang.String")) {
                wrong.add(tree + " joins or compares texts");
            }
            return super.visitBinary(tree, nothing);
        }
    }
}

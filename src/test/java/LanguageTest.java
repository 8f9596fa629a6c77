import com.sun.source.tree.AssertTree;
import com.sun.source.tree.BinaryTree;
import com.sun.source.tree.BlockTree;
import com.sun.source.tree.ClassTree;
import com.sun.source.tree.CompilationUnitTree;
import com.sun.source.tree.DoWhileLoopTree;
import com.sun.source.tree.ForLoopTree;
import com.sun.source.tree.ImportTree;
import com.sun.source.tree.InstanceOfTree;
import com.sun.source.tree.LambdaExpressionTree;
import com.sun.source.tree.MemberReferenceTree;
import com.sun.source.tree.MethodInvocationTree;
import com.sun.source.tree.MethodTree;
import com.sun.source.tree.NewArrayTree;
import com.sun.source.tree.NewClassTree;
import com.sun.source.tree.SynchronizedTree;
import com.sun.source.tree.ThrowTree;
import com.sun.source.tree.Tree;
import com.sun.source.tree.TryTree;
import com.sun.source.tree.TypeCastTree;
import com.sun.source.tree.VariableTree;
import com.sun.source.tree.WhileLoopTree;
import com.sun.source.util.JavacTask;
import com.sun.source.util.TreePath;
import com.sun.source.util.TreePathScanner;
import com.sun.source.util.Trees;
import java.io.IOException;
import java.nio.file.Path;
import java.util.ArrayList;
import java.util.HashSet;
import java.util.LinkedHashMap;
import java.util.List;
import java.util.Map;
import java.util.Set;
import javax.lang.model.element.Element;
import javax.lang.model.element.ElementKind;
import javax.lang.model.element.ExecutableElement;
import javax.lang.model.element.Modifier;
import javax.lang.model.element.TypeElement;
import javax.lang.model.type.TypeKind;
import javax.lang.model.type.TypeMirror;
import javax.tools.JavaCompiler;
import javax.tools.StandardJavaFileManager;
import javax.tools.ToolProvider;

/**
 * The rules of ../shared/LANGUAGE.md that can be seen in the source. Where the class uses less than
 * a rule leaves (it has no try, no list, no instanceof), the less is asked for.
 */
public final class LanguageTest {
    private static final Path SOURCE = Path.of("src/main/java/CubeForms.java");
    private static final int MOST_LINES = 60;
    private static final int MOST_PARAMETERS = 7;
    private static final int MOST_CLASSES = 12;
    private static final int MOST_FIELDS = 20;
    private static final int DEEPEST = 8;
    private static final Set<String> IMPORTS = Set.of("java.util.NoSuchElementException");
    private static final Set<String> LIBRARY = Set.of("String.length", "String.charAt",
            "Integer.bitCount", "Math.min", "Math.max", "System.arraycopy");
    private static final Set<String> THROWN = Set.of("IllegalStateException",
            "IllegalArgumentException", "NoSuchElementException");
    private static final Set<String> PLAIN_TYPES = Set.of("int", "long", "byte", "char", "boolean",
            "void", "java.lang.String");
    private static final Set<String> CONSTANT_TYPES =
            Set.of("int", "long", "boolean", "char", "java.lang.String");

    private LanguageTest() {
    }

    public static void main(String[] args) throws IOException {
        JavaCompiler compiler = ToolProvider.getSystemJavaCompiler();
        try (StandardJavaFileManager files = compiler.getStandardFileManager(null, null, null)) {
            JavacTask task = (JavacTask) compiler.getTask(null, files, null,
                    List.of("--release", "17"), null, files.getJavaFileObjects(SOURCE));
            for (CompilationUnitTree unit : task.parse()) {
                task.analyze();
                Scan scan = new Scan(Trees.instance(task), unit);
                scan.scan(unit, null);
                scan.countAll();
            }
        }
        Check.end("LanguageTest");
    }

    private static void rule(int number, String what, boolean kept) {
        Check.due("rule " + number + " is kept: " + what, kept ? 1 : 0, 1);
    }

    /** Goes through the tree once: most rules at once, those that need all of it in countAll(). */
    private static final class Scan extends TreePathScanner<Void, Void> {
        private final Trees trees;
        private final CompilationUnitTree unit;
        private final Map<Element, Set<Element>> calls = new LinkedHashMap<>();
        private final Set<String> publicNames = new HashSet<>();
        private final List<ExecutableElement> own = new ArrayList<>();
        private int classes = 0;

        Scan(Trees trees, CompilationUnitTree unit) {
            this.trees = trees;
            this.unit = unit;
        }

        void countAll() {
            rule(0, "one class in the file", unit.getTypeDecls().size() == 1);
            rule(0, "no package", unit.getPackageName() == null);
            rule(11, classes + " classes", classes <= MOST_CLASSES);
            for (ExecutableElement m : own) {
                boolean free = m.getModifiers().contains(Modifier.PUBLIC)
                        || m.getKind() == ElementKind.CONSTRUCTOR;
                rule(1, m + " bears a public name",
                        free || !publicNames.contains(m.getSimpleName().toString()));
                int depth = depthOf(m, new ArrayList<>());
                rule(11, m + " goes " + depth + " deep", depth <= DEEPEST);
            }
            rule(11, "all calls were found", own.size() > 100 && calls.size() > 50);
        }

        /** How many calls stand open at most, recursion counted once. */
        private int depthOf(Element method, List<Element> open) {
            if (open.contains(method)) {
                return 0;
            }
            open.add(method);
            int deepest = 0;
            for (Element called : calls.getOrDefault(method, Set.of())) {
                for (ExecutableElement m : own) {
                    if (m.equals(called) || overrides(m, called)) {
                        deepest = Math.max(deepest, depthOf(m, open));
                    }
                }
            }
            open.remove(method);
            return deepest + 1;
        }

        private boolean overrides(ExecutableElement m, Element called) {
            Element owner = m.getEnclosingElement();
            return m.getKind() == ElementKind.METHOD
                    && m.getSimpleName().equals(called.getSimpleName())
                    && m.asType().toString().equals(called.asType().toString())
                    && owner instanceof TypeElement type
                    && type.getSuperclass().toString()
                            .equals(called.getEnclosingElement().toString());
        }

        private Element element() {
            return trees.getElement(getCurrentPath());
        }

        private String typeOf(Tree tree) {
            TypeMirror type = trees.getTypeMirror(new TreePath(getCurrentPath(), tree));
            return type == null ? "" : type.toString();
        }

        private MethodTree method() {
            for (TreePath p = getCurrentPath(); p != null; p = p.getParentPath()) {
                if (p.getLeaf() instanceof MethodTree m) {
                    return m;
                }
                if (p.getLeaf() instanceof ClassTree) {
                    return null;
                }
            }
            return null;
        }

        private boolean inConstructor() {
            return method() == null || method().getReturnType() == null;
        }

        private boolean isOwn(Element e) {
            for (Element at = e; at != null; at = at.getEnclosingElement()) {
                if (at.getSimpleName().contentEquals("CubeForms")) {
                    return true;
                }
            }
            return false;
        }

        private void note(Element called) {
            MethodTree from = method();
            Element caller = from == null ? owner() : trees.getElement(trees.getPath(unit, from));
            calls.computeIfAbsent(caller, k -> new HashSet<>()).add(called);
        }

        /** What is called by the first value of a field is called by the class itself. */
        private Element owner() {
            TreePath p = getCurrentPath();
            while (!(p.getLeaf() instanceof ClassTree)) {
                p = p.getParentPath();
            }
            return trees.getElement(p);
        }

        @Override
        public Void visitImport(ImportTree t, Void v) {
            rule(4, "import " + t.getQualifiedIdentifier(), !t.isStatic()
                    && IMPORTS.contains(t.getQualifiedIdentifier().toString()));
            return null;
        }

        @Override
        public Void visitClass(ClassTree t, Void v) {
            classes++;
            rule(2, t.getSimpleName() + " stands in a method", method() == null);
            int fields = 0;
            for (Tree member : t.getMembers()) {
                rule(5, "a block of its own in " + t.getSimpleName(),
                        !(member instanceof BlockTree));
                if (member instanceof VariableTree field
                        && !field.getModifiers().getFlags().contains(Modifier.STATIC)) {
                    fields++;
                }
            }
            rule(11, t.getSimpleName() + " has " + fields + " fields", fields <= MOST_FIELDS);
            return super.visitClass(t, v);
        }

        @Override
        public Void visitMethod(MethodTree t, Void v) {
            ExecutableElement m = (ExecutableElement) element();
            own.add(m);
            if (m.getModifiers().contains(Modifier.PUBLIC)) {
                publicNames.add(m.getSimpleName().toString());
            }
            rule(11, m + " takes too much", t.getParameters().size() <= MOST_PARAMETERS);
            if (t.getReturnType() != null) {
                rule(3, m + " answers", isPlain(m.getReturnType().toString()));
                rule(11, m + " is too long", linesOf(t) <= MOST_LINES);
            }
            return super.visitMethod(t, v);
        }

        private long linesOf(Tree t) {
            long from = trees.getSourcePositions().getStartPosition(unit, t);
            long to = trees.getSourcePositions().getEndPosition(unit, t);
            return unit.getLineMap().getLineNumber(to) - unit.getLineMap().getLineNumber(from);
        }

        private static boolean isPlain(String type) {
            String one = type.endsWith("[]") ? type.substring(0, type.length() - 2) : type;
            return PLAIN_TYPES.contains(one) || one.startsWith("CubeForms.");
        }

        @Override
        public Void visitVariable(VariableTree t, Void v) {
            Element e = element();
            String type = e.asType().toString();
            rule(3, t + " has the type " + type, isPlain(type));
            boolean constant = e.getKind() == ElementKind.ENUM_CONSTANT;
            if (e.getModifiers().contains(Modifier.STATIC) && !constant) {
                rule(5, t + " is final", e.getModifiers().contains(Modifier.FINAL));
                rule(5, t + " is a constant or values()", CONSTANT_TYPES.contains(type)
                        || t.getInitializer().toString().endsWith(".values()"));
            } else if (e.getKind() == ElementKind.FIELD
                    && e.getEnclosingElement().getKind() == ElementKind.ENUM) {
                rule(2, t + " is a field of an enum", CONSTANT_TYPES.contains(type));
            }
            return super.visitVariable(t, v);
        }

        @Override
        public Void visitMethodInvocation(MethodInvocationTree t, Void v) {
            Element called = element();
            String owner = called.getEnclosingElement().getSimpleName().toString();
            String name = called.getSimpleName().toString();
            boolean ofBaseClass = name.equals("<init>");
            if (name.equals("values")) {
                rule(12, "values() in a method", method() == null);
            } else if (isOwn(called)) {
                note(called);
            } else if (!ofBaseClass) {
                rule(4, owner + "." + name, LIBRARY.contains(owner + "." + name));
            }
            return super.visitMethodInvocation(t, v);
        }

        @Override
        public Void visitNewClass(NewClassTree t, Void v) {
            Element made = element();
            boolean thrown = getCurrentPath().getParentPath().getLeaf() instanceof ThrowTree;
            boolean constant = made.getEnclosingElement().getKind() == ElementKind.ENUM
                    || t.getClassBody() != null;
            if (!thrown) {
                rule(12, t.getIdentifier() + " is made by a call", constant || inConstructor());
                rule(4, t.getIdentifier() + " is made", isOwn(made));
                note(made);
            }
            return super.visitNewClass(t, v);
        }

        @Override
        public Void visitNewArray(NewArrayTree t, Void v) {
            rule(12, t + " is made by a call", inConstructor());
            return super.visitNewArray(t, v);
        }

        @Override
        public Void visitThrow(ThrowTree t, Void v) {
            boolean made = t.getExpression() instanceof NewClassTree n
                    && THROWN.contains(n.getIdentifier().toString())
                    && n.getArguments().isEmpty();
            rule(6, t.toString(), made && !inConstructor());
            return super.visitThrow(t, v);
        }

        @Override
        public Void visitBinary(BinaryTree t, Void v) {
            boolean text = typeOf(t.getLeftOperand()).equals("java.lang.String")
                    || typeOf(t.getRightOperand()).equals("java.lang.String");
            rule(text && t.getKind() == Tree.Kind.PLUS ? 10 : 6, t + " works on a text", !text);
            return super.visitBinary(t, v);
        }

        @Override
        public Void visitTypeCast(TypeCastTree t, Void v) {
            TypeMirror to = trees.getTypeMirror(new TreePath(getCurrentPath(), t.getType()));
            rule(6, t + " casts an object", to.getKind().isPrimitive()
                    && to.getKind() != TypeKind.DOUBLE && to.getKind() != TypeKind.FLOAT);
            return super.visitTypeCast(t, v);
        }

        @Override
        public Void visitForLoop(ForLoopTree t, Void v) {
            rule(9, t + " has an end", t.getCondition() != null && !t.getUpdate().isEmpty());
            return super.visitForLoop(t, v);
        }

        @Override
        public Void visitWhileLoop(WhileLoopTree t, Void v) {
            rule(9, t + " has an end", t.getCondition().toString().contains("<"));
            return super.visitWhileLoop(t, v);
        }

        @Override
        public Void visitDoWhileLoop(DoWhileLoopTree t, Void v) {
            rule(9, t + " has an end", t.getCondition().toString().contains("<"));
            return super.visitDoWhileLoop(t, v);
        }

        @Override
        public Void visitTry(TryTree t, Void v) {
            rule(6, "try", false);
            return null;
        }

        @Override
        public Void visitSynchronized(SynchronizedTree t, Void v) {
            rule(6, "synchronized", false);
            return null;
        }

        @Override
        public Void visitAssert(AssertTree t, Void v) {
            rule(6, "assert", false);
            return null;
        }

        @Override
        public Void visitInstanceOf(InstanceOfTree t, Void v) {
            rule(6, "instanceof", false);
            return null;
        }

        @Override
        public Void visitLambdaExpression(LambdaExpressionTree t, Void v) {
            rule(2, "a lambda", false);
            return null;
        }

        @Override
        public Void visitMemberReference(MemberReferenceTree t, Void v) {
            rule(2, "a method reference", false);
            return null;
        }
    }
}

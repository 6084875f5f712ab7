import com.sun.source.tree.AnnotationTree;
import com.sun.source.tree.AssertTree;
import com.sun.source.tree.BinaryTree;
import com.sun.source.tree.CatchTree;
import com.sun.source.tree.ClassTree;
import com.sun.source.tree.CompilationUnitTree;
import com.sun.source.tree.CompoundAssignmentTree;
import com.sun.source.tree.DoWhileLoopTree;
import com.sun.source.tree.EnhancedForLoopTree;
import com.sun.source.tree.ForLoopTree;
import com.sun.source.tree.IdentifierTree;
import com.sun.source.tree.ImportTree;
import com.sun.source.tree.LambdaExpressionTree;
import com.sun.source.tree.LiteralTree;
import com.sun.source.tree.MemberReferenceTree;
import com.sun.source.tree.MemberSelectTree;
import com.sun.source.tree.MethodInvocationTree;
import com.sun.source.tree.MethodTree;
import com.sun.source.tree.NewClassTree;
import com.sun.source.tree.SynchronizedTree;
import com.sun.source.tree.ThrowTree;
import com.sun.source.tree.Tree;
import com.sun.source.tree.TryTree;
import com.sun.source.tree.VariableTree;
import com.sun.source.tree.WhileLoopTree;
import com.sun.source.util.JavacTask;
import com.sun.source.util.SourcePositions;
import com.sun.source.util.TreePathScanner;
import com.sun.source.util.Trees;
import java.io.IOException;
import java.nio.file.Path;
import java.util.HashMap;
import java.util.HashSet;
import java.util.LinkedHashMap;
import java.util.List;
import java.util.Map;
import java.util.Set;
import java.util.TreeMap;
import java.util.TreeSet;
import javax.lang.model.element.Element;
import javax.lang.model.element.ExecutableElement;
import javax.lang.model.element.Modifier;
import javax.lang.model.element.TypeElement;
import javax.lang.model.util.Elements;
import javax.tools.JavaCompiler;
import javax.tools.StandardJavaFileManager;
import javax.tools.ToolProvider;

/** Looks at the class's own text: the rules of LANGUAGE.md, as far as a program can tell that they are kept. */
public final class LanguageTest {
    private static final int MOST_LINES = 60;
    private static final int MOST_PARAMETERS = 7;
    private static final int MOST_CLASSES = 12;
    private static final int MOST_FIELDS = 21;
    private static final int MOST_DEEP = 8;
    private static final Set<String> LIBRARY = Set.of("java.lang.String.length", "java.lang.String.charAt",
        "java.lang.Math.min", "java.lang.Math.max", "java.lang.Integer.bitCount", "java.lang.Integer.compare",
        "java.lang.System.arraycopy", "java.lang.Object.<init>");
    private static final Set<String> THROWN = Set.of("IllegalStateException", "IllegalArgumentException",
        "IndexOutOfBoundsException", "ArithmeticException", "UnsupportedOperationException", "NoSuchElementException");
    private static final Set<String> STATICS = Set.of("int", "long", "boolean", "char", "String", "int[]", "long[]", "char[]", "byte[]");

    private final Due due = new Due("LanguageTest");
    private final Map<ExecutableElement, Set<ExecutableElement>> callees = new LinkedHashMap<>();
    private final Set<String> face = new TreeSet<>();
    private final Map<String, Integer> fields = new TreeMap<>();
    private int classes = 0;
    private Trees trees;
    private Elements elements;

    public static void main(String[] args) throws IOException {
        LanguageTest test = new LanguageTest();
        test.look(Path.of(args.length > 0 ? args[0] : "src/main/java/Sourcewright.java"));
        test.due.end();
    }

    private void look(Path file) throws IOException {
        JavaCompiler compiler = ToolProvider.getSystemJavaCompiler();
        try (StandardJavaFileManager manager = compiler.getStandardFileManager(null, null, null)) {
            JavacTask task = (JavacTask) compiler.getTask(null, manager, null, List.of("-proc:none"), null, manager.getJavaFileObjects(file));
            CompilationUnitTree unit = task.parse().iterator().next();
            task.analyze();
            trees = Trees.instance(task);
            elements = task.getElements();
            due.check(unit.getPackageName() == null, "rule 1: a package line");
            due.same("top classes", unit.getTypeDecls().size(), 1);
            new FaceScanner().scan(unit, null);
            new RuleScanner(unit).scan(unit, null);
        }
        due.check(classes <= MOST_CLASSES, "rule 11: " + classes + " classes");
        fields.forEach((name, many) -> due.check(many <= MOST_FIELDS, "rule 11: " + name + " has " + many + " fields"));
        Map<ExecutableElement, Integer> deep = new HashMap<>();
        for (ExecutableElement one : callees.keySet()) {
            int depth = depth(one, deep, new HashSet<>());
            due.check(depth <= MOST_DEEP, "rule 11: " + one.getEnclosingElement() + "." + one + " goes " + depth + " deep");
        }
    }

    /** How many methods stand open at once at most, this one counted. */
    private int depth(ExecutableElement one, Map<ExecutableElement, Integer> known, Set<ExecutableElement> open) {
        if (known.containsKey(one)) {
            return known.get(one);
        }
        if (!open.add(one)) {
            due.check(false, "rule 8: " + one + " calls itself");
            return 0;
        }
        int most = 0;
        for (ExecutableElement callee : callees.getOrDefault(one, Set.of())) {
            for (ExecutableElement meant : meant(callee)) {
                most = Math.max(most, depth(meant, known, open));
            }
        }
        open.remove(one);
        known.put(one, most + 1);
        return most + 1;
    }

    /** The method and all that override it. */
    private Set<ExecutableElement> meant(ExecutableElement callee) {
        Set<ExecutableElement> all = new HashSet<>();
        all.add(callee);
        for (ExecutableElement other : callees.keySet()) {
            if (elements.overrides(other, callee, (TypeElement) other.getEnclosingElement())) {
                all.add(other);
            }
        }
        return all;
    }

    /** Gathers the names of the face. */
    private final class FaceScanner extends TreePathScanner<Void, Void> {
        @Override
        public Void visitMethod(MethodTree tree, Void none) {
            if (tree.getModifiers().getFlags().contains(Modifier.PUBLIC)) {
                face.add(tree.getName().toString());
            }
            return super.visitMethod(tree, none);
        }
    }

    private final class RuleScanner extends TreePathScanner<Void, Void> {
        private final CompilationUnitTree unit;
        private final SourcePositions positions;
        private ExecutableElement method = null;

        RuleScanner(CompilationUnitTree unit) {
            this.unit = unit;
            this.positions = trees.getSourcePositions();
        }

        private long line(Tree tree) {
            return unit.getLineMap().getLineNumber(positions.getStartPosition(unit, tree));
        }

        private void refuse(Tree tree, String what) {
            due.check(false, "line " + line(tree) + ": " + what);
        }

        @Override
        public Void visitImport(ImportTree tree, Void none) {
            String name = tree.getQualifiedIdentifier().toString();
            due.check(name.equals("java.util.NoSuchElementException"), "rule 4: import of " + name);
            return super.visitImport(tree, none);
        }

        @Override
        public Void visitClass(ClassTree tree, Void none) {
            classes++;
            Set<Modifier> flags = tree.getModifiers().getFlags();
            boolean isTop = getCurrentPath().getParentPath().getLeaf() == unit;
            due.check(isTop ? flags.contains(Modifier.PUBLIC) && flags.contains(Modifier.FINAL)
                : flags.contains(Modifier.STATIC) && flags.contains(Modifier.PRIVATE), "rule 1: class " + tree.getSimpleName());
            return super.visitClass(tree, none);
        }

        @Override
        public Void visitMethod(MethodTree tree, Void none) {
            ExecutableElement before = method;
            method = (ExecutableElement) trees.getElement(getCurrentPath());
            callees.putIfAbsent(method, new HashSet<>());
            boolean isOfFace = method.getEnclosingElement().toString().equals("Sourcewright");
            Set<Modifier> flags = tree.getModifiers().getFlags();
            String name = tree.getName().toString();
            if (isOfFace) {
                due.check(flags.contains(Modifier.PUBLIC) || flags.contains(Modifier.PRIVATE), "rule 1: " + name);
            }
            if (!flags.contains(Modifier.PUBLIC)) {
                due.check(name.equals("<init>") || !face.contains(name), "rule 1: a second " + name);
            }
            long first = line(tree);
            long last = unit.getLineMap().getLineNumber(positions.getEndPosition(unit, tree));
            due.check(last - first < MOST_LINES, "rule 11: " + name + " has " + (last - first + 1) + " lines");
            due.check(tree.getParameters().size() <= MOST_PARAMETERS, "rule 11: parameters of " + name);
            super.visitMethod(tree, none);
            method = before;
            return null;
        }

        @Override
        public Void visitVariable(VariableTree tree, Void none) {
            Element parent = trees.getElement(getCurrentPath().getParentPath());
            Set<Modifier> flags = tree.getModifiers().getFlags();
            if (getCurrentPath().getParentPath().getLeaf() instanceof ClassTree) {
                if (flags.contains(Modifier.STATIC)) {
                    due.check(flags.contains(Modifier.FINAL) && flags.contains(Modifier.PRIVATE), "rule 5: " + tree.getName());
                    due.check(STATICS.contains(tree.getType().toString()), "rule 5: type of " + tree.getName());
                } else {
                    fields.merge(parent.toString(), 1, Integer::sum);
                    boolean isOfFace = parent.toString().equals("Sourcewright");
                    due.check(!isOfFace || flags.contains(Modifier.PRIVATE), "rule 1: " + tree.getName());
                }
            }
            return super.visitVariable(tree, none);
        }

        @Override
        public Void visitMethodInvocation(MethodInvocationTree tree, Void none) {
            note(tree, trees.getElement(getCurrentPath()));
            return super.visitMethodInvocation(tree, none);
        }

        @Override
        public Void visitNewClass(NewClassTree tree, Void none) {
            due.check(tree.getClassBody() == null, "line " + line(tree) + ": an anonymous class");
            Element made = trees.getElement(getCurrentPath());
            if (!(getCurrentPath().getParentPath().getLeaf() instanceof ThrowTree)) {
                note(tree, made);
            }
            return super.visitNewClass(tree, none);
        }

        private void note(Tree tree, Element called) {
            ExecutableElement one = (ExecutableElement) called;
            String name = one.getEnclosingElement() + "." + one.getSimpleName();
            if (!name.startsWith("Sourcewright.")) {
                due.check(LIBRARY.contains(name), "line " + line(tree) + ": rule 4: " + name);
            } else if (method != null) {
                callees.get(method).add(one);
            }
        }

        @Override
        public Void visitThrow(ThrowTree tree, Void none) {
            boolean isPlain = tree.getExpression() instanceof NewClassTree;
            if (isPlain) {
                NewClassTree made = (NewClassTree) tree.getExpression();
                isPlain = THROWN.contains(made.getIdentifier().toString()) && made.getArguments().size() <= 1
                    && made.getArguments().stream().allMatch(one -> one instanceof LiteralTree);
            }
            due.check(isPlain && !method.getSimpleName().contentEquals("<init>"), "line " + line(tree) + ": rule 6");
            return super.visitThrow(tree, none);
        }

        @Override
        public Void visitBinary(BinaryTree tree, Void none) {
            boolean isText = trees.getTypeMirror(getCurrentPath()).toString().equals("java.lang.String");
            due.check(!isText, "line " + line(tree) + ": rule 10: joined texts");
            return super.visitBinary(tree, none);
        }

        @Override
        public Void visitCompoundAssignment(CompoundAssignmentTree tree, Void none) {
            boolean isText = trees.getTypeMirror(getCurrentPath()).toString().equals("java.lang.String");
            due.check(!isText, "line " + line(tree) + ": rule 10: joined texts");
            return super.visitCompoundAssignment(tree, none);
        }

        @Override
        public Void visitForLoop(ForLoopTree tree, Void none) {
            String condition = "" + tree.getCondition();
            boolean isCounted = !tree.getInitializer().isEmpty() && !tree.getUpdate().isEmpty();
            due.check(isCounted && condition.matches(".*[<>].*"), "line " + line(tree) + ": rule 9: " + condition);
            return super.visitForLoop(tree, none);
        }

        @Override
        public Void visitWhileLoop(WhileLoopTree tree, Void none) {
            refuse(tree, "rule 9: while");
            return super.visitWhileLoop(tree, none);
        }

        @Override
        public Void visitDoWhileLoop(DoWhileLoopTree tree, Void none) {
            refuse(tree, "rule 9: do");
            return super.visitDoWhileLoop(tree, none);
        }

        @Override
        public Void visitEnhancedForLoop(EnhancedForLoopTree tree, Void none) {
            refuse(tree, "rule 12: for over a row, which none needs yet");
            return super.visitEnhancedForLoop(tree, none);
        }

        @Override
        public Void visitTry(TryTree tree, Void none) {
            refuse(tree, "rule 6: try, which none needs yet");
            return super.visitTry(tree, none);
        }

        @Override
        public Void visitCatch(CatchTree tree, Void none) {
            refuse(tree, "rule 6: catch, which none needs yet");
            return super.visitCatch(tree, none);
        }

        @Override
        public Void visitLambdaExpression(LambdaExpressionTree tree, Void none) {
            refuse(tree, "rule 2: a lambda");
            return super.visitLambdaExpression(tree, none);
        }

        @Override
        public Void visitMemberReference(MemberReferenceTree tree, Void none) {
            refuse(tree, "rule 2: a method reference");
            return super.visitMemberReference(tree, none);
        }

        @Override
        public Void visitSynchronized(SynchronizedTree tree, Void none) {
            refuse(tree, "rule 6: synchronized");
            return super.visitSynchronized(tree, none);
        }

        @Override
        public Void visitAssert(AssertTree tree, Void none) {
            refuse(tree, "rule 6: assert");
            return super.visitAssert(tree, none);
        }

        @Override
        public Void visitAnnotation(AnnotationTree tree, Void none) {
            refuse(tree, "rule 4: an annotation");
            return super.visitAnnotation(tree, none);
        }

        @Override
        public Void visitIdentifier(IdentifierTree tree, Void none) {
            due.check(!tree.getName().toString().matches("Object|List|ArrayList|Thread|Runtime|Class"), "line " + line(tree) + ": " + tree);
            return super.visitIdentifier(tree, none);
        }

        @Override
        public Void visitMemberSelect(MemberSelectTree tree, Void none) {
            due.check(!tree.getIdentifier().contentEquals("class"), "line " + line(tree) + ": rule 4: " + tree);
            return super.visitMemberSelect(tree, none);
        }
    }
}

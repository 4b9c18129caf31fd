import com.sun.source.tree.ArrayAccessTree;
import com.sun.source.tree.AssertTree;
import com.sun.source.tree.AssignmentTree;
import com.sun.source.tree.BlockTree;
import com.sun.source.tree.ClassTree;
import com.sun.source.tree.CompilationUnitTree;
import com.sun.source.tree.CompoundAssignmentTree;
import com.sun.source.tree.ExpressionTree;
import com.sun.source.tree.InstanceOfTree;
import com.sun.source.tree.LambdaExpressionTree;
import com.sun.source.tree.MemberReferenceTree;
import com.sun.source.tree.MemberSelectTree;
import com.sun.source.tree.MethodInvocationTree;
import com.sun.source.tree.MethodTree;
import com.sun.source.tree.NewArrayTree;
import com.sun.source.tree.NewClassTree;
import com.sun.source.tree.SynchronizedTree;
import com.sun.source.tree.ThrowTree;
import com.sun.source.tree.Tree;
import com.sun.source.tree.TryTree;
import com.sun.source.tree.TypeCastTree;
import com.sun.source.tree.UnaryTree;
import com.sun.source.tree.VariableTree;
import com.sun.source.util.JavacTask;
import com.sun.source.util.TreePathScanner;
import com.sun.source.util.Trees;
import java.io.IOException;
import java.nio.file.Path;
import java.util.ArrayList;
import java.util.HashMap;
import java.util.HashSet;
import java.util.LinkedHashMap;
import java.util.List;
import java.util.Map;
import java.util.Set;
import javax.lang.model.element.Element;
import javax.lang.model.element.ElementKind;
import javax.lang.model.element.ExecutableElement;
import javax.lang.model.element.Modifier;
import javax.lang.model.element.TypeElement;
import javax.lang.model.element.VariableElement;
import javax.lang.model.type.TypeMirror;
import javax.lang.model.util.Elements;
import javax.tools.JavaCompiler;
import javax.tools.StandardJavaFileManager;
import javax.tools.ToolProvider;

/** The rules of ../shared/LANGUAGE.md that can be seen in the source, by the compiler's own tree of it. */
public final class LanguageTest {
    private static final Path SOURCE = Path.of("src/main/java/HerbKey.java");
    private static final int MOST_PARAMETERS = 7;
    private static final int MOST_LINES = 60;
    private static final int MOST_DEPTH = 8;
    private static final int MOST_CLASSES = 12;
    private static final int MOST_FIELDS = 20;
    private static final Set<String> LIBRARY = Set.of("java.lang.Math.min", "java.lang.Math.max", "java.lang.Math.abs",
            "java.lang.Long.bitCount", "java.lang.Long.compare", "java.util.Arrays.fill");
    private static final Set<String> PLAIN = Set.of("int", "long", "boolean", "int[]", "long[]");

    private static int wrong = 0;

    private static void must(boolean holds, int rule, String what) {
        if (holds) return;
        wrong++;
        System.out.println("rule " + rule + ": " + what);
    }

    public static void main(String[] args) throws IOException {
        JavaCompiler compiler = ToolProvider.getSystemJavaCompiler();
        try (StandardJavaFileManager files = compiler.getStandardFileManager(null, null, null)) {
            JavacTask task = (JavacTask) compiler.getTask(null, files, null, List.of("-proc:none"), null,
                    files.getJavaFileObjects(SOURCE));
            CompilationUnitTree unit = task.parse().iterator().next();
            task.analyze();
            Reader reader = new Reader(unit, Trees.instance(task), task.getElements());
            reader.scan(unit, null);
            reader.counts();
            reader.calls();
        }
        System.out.println(wrong == 0 ? "the rules of the language that can be seen are kept" : wrong + " faults");
        if (wrong != 0) System.exit(1);
    }

    private static final class Reader extends TreePathScanner<Void, Void> {
        final CompilationUnitTree unit;
        final Trees trees;
        final Elements elements;
        final List<TypeElement> classes = new ArrayList<>();
        final Map<ExecutableElement, Set<ExecutableElement>> calls = new LinkedHashMap<>();
        final Set<ExecutableElement> withLibrary = new HashSet<>();
        final Map<ExecutableElement, Set<String>> tested = new HashMap<>();
        ExecutableElement method;

        Reader(CompilationUnitTree unit, Trees trees, Elements elements) {
            this.unit = unit;
            this.trees = trees;
            this.elements = elements;
        }

        Element element() {
            return trees.getElement(getCurrentPath());
        }

        long line(Tree tree) {
            return unit.getLineMap().getLineNumber(trees.getSourcePositions().getStartPosition(unit, tree));
        }

        long lines(Tree tree) {
            return unit.getLineMap().getLineNumber(trees.getSourcePositions().getEndPosition(unit, tree)) - line(tree) + 1;
        }

        String at(Tree tree) {
            return " at line " + line(tree);
        }

        boolean isOwn(TypeMirror type) {
            return type.toString().startsWith("HerbKey");
        }

        // ---- what stands in the source

        @Override public Void visitClass(ClassTree tree, Void v) {
            TypeElement type = (TypeElement) element();
            classes.add(type);
            boolean outer = type.getNestingKind().toString().equals("TOP_LEVEL");
            must(outer || type.getNestingKind().toString().equals("MEMBER"), 2, "a local class" + at(tree));
            must(outer || type.getModifiers().contains(Modifier.STATIC) || type.getKind() == ElementKind.INTERFACE, 2,
                    type + " is not static");
            must(outer || !type.getModifiers().contains(Modifier.PUBLIC) && !type.getModifiers().contains(Modifier.PROTECTED), 1,
                    type + " is open");
            must(!outer || type.getModifiers().contains(Modifier.PUBLIC) && type.getModifiers().contains(Modifier.FINAL), 1,
                    "the class is not public and final");
            for (Tree member : tree.getMembers()) {
                must(!(member instanceof BlockTree), 5, "an initialiser block" + at(member));
            }
            return super.visitClass(tree, v);
        }

        @Override public Void visitMethod(MethodTree tree, Void v) {
            method = (ExecutableElement) element();
            calls.putIfAbsent(method, new HashSet<>());
            tested.putIfAbsent(method, new HashSet<>());
            must(tree.getParameters().size() <= MOST_PARAMETERS, 11, method + " takes too many");
            must(lines(tree) <= MOST_LINES, 11, method + " has " + lines(tree) + " lines");
            must(tree.getThrows().isEmpty(), 6, method + " throws");
            super.visitMethod(tree, v);
            method = null;
            return null;
        }

        @Override public Void visitVariable(VariableTree tree, Void v) {
            VariableElement variable = (VariableElement) element();
            String type = variable.asType().toString();
            boolean ownArray = type.endsWith("[]") && !type.endsWith("[][]") && type.startsWith("HerbKey");
            must(PLAIN.contains(type) || isOwn(variable.asType()) && !type.contains("[") || ownArray, 3, type + at(tree));
            if (variable.getKind() == ElementKind.FIELD && variable.getModifiers().contains(Modifier.STATIC)) {
                must(variable.getModifiers().contains(Modifier.FINAL), 5, variable + " is static state");
                boolean constant = variable.getConstantValue() != null;
                boolean written = tree.getInitializer() instanceof NewArrayTree a && a.getInitializers() != null;
                must(constant || written, 5, variable + " is no constant");
            }
            return super.visitVariable(tree, v);
        }

        private void notIntoConstants(ExpressionTree to, Tree tree) {
            if (!(to instanceof ArrayAccessTree access)) return;
            Element array = trees.getElement(new com.sun.source.util.TreePath(getCurrentPath(), access.getExpression()));
            must(array == null || !array.getModifiers().contains(Modifier.STATIC), 5, "a constant row is changed" + at(tree));
        }

        @Override public Void visitAssignment(AssignmentTree tree, Void v) {
            notIntoConstants(tree.getVariable(), tree);
            return super.visitAssignment(tree, v);
        }

        @Override public Void visitCompoundAssignment(CompoundAssignmentTree tree, Void v) {
            notIntoConstants(tree.getVariable(), tree);
            return super.visitCompoundAssignment(tree, v);
        }

        @Override public Void visitUnary(UnaryTree tree, Void v) {
            notIntoConstants(tree.getExpression(), tree);
            return super.visitUnary(tree, v);
        }

        @Override public Void visitLambdaExpression(LambdaExpressionTree tree, Void v) {
            must(false, 2, "a lambda" + at(tree));
            return super.visitLambdaExpression(tree, v);
        }

        @Override public Void visitMemberReference(MemberReferenceTree tree, Void v) {
            must(false, 2, "a method reference" + at(tree));
            return super.visitMemberReference(tree, v);
        }

        @Override public Void visitThrow(ThrowTree tree, Void v) {
            must(false, 6, "throw" + at(tree));
            return super.visitThrow(tree, v);
        }

        @Override public Void visitTry(TryTree tree, Void v) {
            must(false, 6, "try" + at(tree));
            return super.visitTry(tree, v);
        }

        @Override public Void visitSynchronized(SynchronizedTree tree, Void v) {
            must(false, 6, "synchronized" + at(tree));
            return super.visitSynchronized(tree, v);
        }

        @Override public Void visitAssert(AssertTree tree, Void v) {
            must(false, 6, "assert" + at(tree));
            return super.visitAssert(tree, v);
        }

        @Override public Void visitInstanceOf(InstanceOfTree tree, Void v) {
            Tree type = tree.getType() != null ? tree.getType() : tree.getPattern();
            if (method != null) tested.get(method).add(type.toString());
            return super.visitInstanceOf(tree, v);
        }

        @Override public Void visitTypeCast(TypeCastTree tree, Void v) {
            String to = tree.getType().toString();
            boolean number = to.equals("int") || to.equals("long");
            must(number || method != null && tested.get(method).contains(to), 6, "a cast without a test" + at(tree));
            return super.visitTypeCast(tree, v);
        }

        @Override public Void visitNewClass(NewClassTree tree, Void v) {
            must(tree.getClassBody() == null, 2, "an anonymous class" + at(tree));
            must(isOwn(((ExecutableElement) element()).getEnclosingElement().asType()), 4, tree + at(tree));
            call((ExecutableElement) element(), tree, true);
            return super.visitNewClass(tree, v);
        }

        @Override public Void visitMethodInvocation(MethodInvocationTree tree, Void v) {
            ExecutableElement to = (ExecutableElement) element();
            boolean exact = tree.getMethodSelect() instanceof MemberSelectTree s && s.getExpression().toString().equals("super");
            boolean ofConstructor = tree.getMethodSelect().toString().equals("super");
            boolean inConstructor = method != null && method.getKind() == ElementKind.CONSTRUCTOR;
            must(!inConstructor || ofConstructor, 12, "a constructor calls " + to + at(tree));
            call(to, tree, exact || ofConstructor);
            return super.visitMethodInvocation(tree, v);
        }

        private void call(ExecutableElement to, Tree tree, boolean exact) {
            if (method == null) return;
            Element owner = to.getEnclosingElement();
            if (isOwn(owner.asType())) {
                calls.get(method).add(to);
                if (!exact) virtual.add(to);
                return;
            }
            if (to.getSimpleName().contentEquals("<init>") && owner.toString().equals("java.lang.Object")) return;
            boolean clone = to.getSimpleName().contentEquals("clone");
            must(clone || LIBRARY.contains(owner + "." + to.getSimpleName()), 4, "calls " + owner + "." + to + at(tree));
            withLibrary.add(method);
        }

        // ---- what the whole of it comes to

        private final Set<ExecutableElement> virtual = new HashSet<>();

        void counts() {
            must(classes.size() <= MOST_CLASSES, 11, classes.size() + " classes");
            Set<String> open = new HashSet<>();
            for (TypeElement type : classes) {
                int fields = 0;
                for (Element e : type.getEnclosedElements()) {
                    if (e.getKind() == ElementKind.FIELD && !e.getModifiers().contains(Modifier.STATIC)) fields++;
                }
                must(fields <= MOST_FIELDS, 11, type + " has " + fields + " fields");
            }
            for (Element e : classes.get(0).getEnclosedElements()) {
                if (e.getModifiers().contains(Modifier.PUBLIC)) open.add(e.getSimpleName().toString());
            }
            for (ExecutableElement m : calls.keySet()) {
                boolean own = m.getKind() == ElementKind.METHOD && m.getModifiers().contains(Modifier.PRIVATE);
                must(!own || !open.contains(m.getSimpleName().toString()), 1, m + " bears a public one's name");
                boolean never = Set.of("equals", "hashCode", "toString").contains(m.getSimpleName().toString());
                must(!never, 6, m + " is of its own");
            }
        }

        /** Each call goes to a method and to all that override it; the longest chain is what may stand open. */
        void calls() {
            Map<ExecutableElement, Integer> depth = new HashMap<>();
            int deepest = 0;
            for (ExecutableElement m : calls.keySet()) {
                deepest = Math.max(deepest, depthOf(m, depth, new HashSet<>()));
            }
            must(deepest <= MOST_DEPTH, 11, "calls go " + deepest + " deep");
            System.out.println("calls go " + deepest + " deep, the library's too");
        }

        private int depthOf(ExecutableElement m, Map<ExecutableElement, Integer> depth, Set<ExecutableElement> open) {
            if (depth.containsKey(m)) return depth.get(m);
            if (!open.add(m)) {
                must(false, 8, m + " of " + m.getEnclosingElement() + " calls itself");
                return 0;
            }
            int most = withLibrary.contains(m) ? 1 : 0;
            for (ExecutableElement to : calls.getOrDefault(m, Set.of())) {
                for (ExecutableElement body : bodies(to)) {
                    most = Math.max(most, depthOf(body, depth, open));
                }
            }
            open.remove(m);
            depth.put(m, most + 1);
            return most + 1;
        }

        private Set<ExecutableElement> bodies(ExecutableElement to) {
            Set<ExecutableElement> out = new HashSet<>();
            out.add(to);
            if (!virtual.contains(to)) return out;
            for (ExecutableElement m : calls.keySet()) {
                if (elements.overrides(m, to, (TypeElement) m.getEnclosingElement())) out.add(m);
            }
            return out;
        }
    }
}

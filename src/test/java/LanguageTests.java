import com.sun.source.tree.AnnotationTree;
import com.sun.source.tree.BinaryTree;
import com.sun.source.tree.ClassTree;
import com.sun.source.tree.CompilationUnitTree;
import com.sun.source.tree.CompoundAssignmentTree;
import com.sun.source.tree.ExpressionTree;
import com.sun.source.tree.LiteralTree;
import com.sun.source.tree.MethodInvocationTree;
import com.sun.source.tree.MethodTree;
import com.sun.source.tree.NewArrayTree;
import com.sun.source.tree.NewClassTree;
import com.sun.source.tree.Tree;
import com.sun.source.tree.TypeCastTree;
import com.sun.source.tree.VariableTree;
import com.sun.source.util.JavacTask;
import com.sun.source.util.TreePathScanner;
import com.sun.source.util.Trees;
import java.nio.file.Path;
import java.util.ArrayList;
import java.util.EnumSet;
import java.util.HashMap;
import java.util.HashSet;
import java.util.LinkedHashMap;
import java.util.List;
import java.util.Map;
import java.util.Set;
import javax.lang.model.element.Element;
import javax.lang.model.element.ElementKind;
import javax.lang.model.element.ExecutableElement;
import javax.lang.model.element.Modifier;
import javax.lang.model.element.TypeElement;
import javax.lang.model.type.TypeMirror;
import javax.lang.model.util.Elements;
import javax.tools.JavaCompiler;
import javax.tools.StandardJavaFileManager;
import javax.tools.ToolProvider;

/**
 * The rules of ../shared/LANGUAGE.md that the compiler's own trees of the program show, each by its number. They are
 * looked at more narrowly than they are told: what the program does without is not allowed here either.
 */
public final class LanguageTests {
    private static final Path SOURCE = Path.of("src/main/java/EatenByDusk.java");
    private static final String PROGRAM = "EatenByDusk";

    private static final Set<String> TYPES = Set.of("int", "boolean", "char", "void", "int[]", "char[]", "java.lang.String");
    private static final Set<String> LIBRARY = Set.of("java.lang.Object.<init>", "java.lang.String.length",
        "java.lang.String.charAt", "java.lang.String.isEmpty", "java.lang.String.indexOf", "java.lang.Integer.bitCount",
        "java.lang.Math.min", "java.lang.System.arraycopy");
    private static final Set<String> STATIC_TYPES = Set.of("int", "java.lang.String");
    private static final Set<String> PRIMITIVES = Set.of("int", "boolean", "char");
    private static final Set<Tree.Kind> NEVER = EnumSet.of(Tree.Kind.THROW, Tree.Kind.TRY, Tree.Kind.CATCH,
        Tree.Kind.SYNCHRONIZED, Tree.Kind.ASSERT, Tree.Kind.LAMBDA_EXPRESSION, Tree.Kind.MEMBER_REFERENCE,
        Tree.Kind.INSTANCE_OF, Tree.Kind.IMPORT, Tree.Kind.PACKAGE, Tree.Kind.ANNOTATION, Tree.Kind.INTERFACE, Tree.Kind.ENUM,
        Tree.Kind.RECORD, Tree.Kind.ENHANCED_FOR_LOOP, Tree.Kind.WHILE_LOOP, Tree.Kind.SWITCH_EXPRESSION,
        Tree.Kind.PARAMETERIZED_TYPE, Tree.Kind.DOUBLE_LITERAL, Tree.Kind.FLOAT_LITERAL, Tree.Kind.NULL_LITERAL);

    private static final int MOST_CLASSES = 12;
    private static final int MOST_FIELDS = 20;
    private static final int MOST_PARAMETERS = 7;
    private static final int LONGEST_METHOD = 60;
    private static final int DEEPEST = 8;

    private static int looked = 0;
    private static int wrong = 0;

    private static void due(int rule, boolean holds, String what) {
        looked++;
        if (holds) return;
        wrong++;
        System.out.println("rule " + rule + ": " + what);
    }

    /** Looks at each tree of the program, and keeps which method calls which. */
    private static final class Looker extends TreePathScanner<Void, Void> {
        private final Trees trees;
        private final Elements elements;
        private final CompilationUnitTree unit;
        private final List<ExecutableElement> methods = new ArrayList<>();
        private final Map<ExecutableElement, Set<ExecutableElement>> calls = new LinkedHashMap<>();
        private int classes = 0;

        Looker(Trees trees, Elements elements, CompilationUnitTree unit) {
            this.trees = trees;
            this.elements = elements;
            this.unit = unit;
        }

        private long line(Tree tree) {
            return unit.getLineMap().getLineNumber(trees.getSourcePositions().getStartPosition(unit, tree));
        }

        private long lastLine(Tree tree) {
            return unit.getLineMap().getLineNumber(trees.getSourcePositions().getEndPosition(unit, tree));
        }

        private String at(Tree tree) {
            String[] told = tree.toString().strip().split("\n");
            return "line " + line(tree) + ": " + told[0];
        }

        private Element here() {
            return trees.getElement(getCurrentPath());
        }

        private TypeMirror typeOf(ExpressionTree tree) {
            return trees.getTypeMirror(trees.getPath(unit, tree));
        }

        private boolean isText(ExpressionTree tree) {
            return typeOf(tree).toString().equals("java.lang.String");
        }

        private static boolean isOwn(String type) {
            return type.equals(PROGRAM) || type.startsWith(PROGRAM + ".");
        }

        private static boolean isAllowed(String type) {
            String one = type.endsWith("[]") ? type.substring(0, type.length() - 2) : type;
            return TYPES.contains(type) || isOwn(one);
        }

        /** The method, constructor or class (of a field written out) in which the tree that is looked at stands. */
        private Element inside() {
            var path = getCurrentPath();
            while (!(path.getLeaf() instanceof MethodTree) && !(path.getLeaf() instanceof ClassTree)) {
                path = path.getParentPath();
            }
            return trees.getElement(path);
        }

        @Override
        public Void scan(Tree tree, Void none) {
            if (tree != null) due(tree instanceof AnnotationTree ? 4 : 6, !NEVER.contains(tree.getKind()), at(tree));
            return super.scan(tree, none);
        }

        @Override
        public Void visitClass(ClassTree tree, Void none) {
            classes++;
            Element element = here();
            boolean isOutside = element.getSimpleName().contentEquals(PROGRAM);
            due(2, isOutside || element.getModifiers().contains(Modifier.STATIC), "not static: " + element);
            due(2, element.getEnclosingElement().getKind() != ElementKind.METHOD, "a local class: " + element);
            due(2, tree.getSimpleName().length() > 0, "a class without a name, " + at(tree));
            due(1, isOutside || element.getModifiers().contains(Modifier.PRIVATE), "not private: " + element);
            due(6, tree.getImplementsClause().isEmpty(), "what it implements: " + element);
            int fields = 0;
            for (Tree member : tree.getMembers()) {
                due(5, member.getKind() != Tree.Kind.BLOCK, "a block in " + element);
                if (member instanceof VariableTree field && !field.getModifiers().getFlags().contains(Modifier.STATIC)) fields++;
            }
            due(11, fields <= MOST_FIELDS, fields + " fields in " + element);
            return super.visitClass(tree, none);
        }

        @Override
        public Void visitMethod(MethodTree tree, Void none) {
            ExecutableElement element = (ExecutableElement) here();
            methods.add(element);
            calls.putIfAbsent(element, new HashSet<>());
            String name = element.getEnclosingElement() + "." + element;
            due(11, tree.getParameters().size() <= MOST_PARAMETERS, "too many parameters: " + name);
            due(11, lastLine(tree) - line(tree) < LONGEST_METHOD, "too long: " + name);
            due(6, tree.getThrows().isEmpty(), "it throws: " + name);
            due(3, tree.getReturnType() == null || isAllowed(element.getReturnType().toString()), "what it answers: " + name);
            boolean ofAll = Set.of("equals", "hashCode", "toString").contains(element.getSimpleName().toString());
            due(6, !ofAll, "of every object: " + name);
            return super.visitMethod(tree, none);
        }

        @Override
        public Void visitVariable(VariableTree tree, Void none) {
            Element element = here();
            String type = element.asType().toString();
            due(3, isAllowed(type), "the type of " + at(tree));
            boolean isField = element.getKind() == ElementKind.FIELD;
            Set<Modifier> is = element.getModifiers();
            if (isField && is.contains(Modifier.STATIC)) {
                boolean isConstant = is.contains(Modifier.FINAL) && STATIC_TYPES.contains(type);
                due(5, isConstant && is.contains(Modifier.PRIVATE), "a static field, " + at(tree));
            }
            boolean isOutside = element.getEnclosingElement().getSimpleName().contentEquals(PROGRAM);
            if (isField && isOutside) due(1, is.contains(Modifier.PRIVATE), "not private, " + at(tree));
            return super.visitVariable(tree, none);
        }

        @Override
        public Void visitMethodInvocation(MethodInvocationTree tree, Void none) {
            keepCall((ExecutableElement) here(), tree);
            return super.visitMethodInvocation(tree, none);
        }

        @Override
        public Void visitNewClass(NewClassTree tree, Void none) {
            due(2, tree.getClassBody() == null, "a class without a name, " + at(tree));
            due(12, inside().getKind() != ElementKind.METHOD, "an object made by a call, " + at(tree));
            keepCall((ExecutableElement) here(), tree);
            return super.visitNewClass(tree, none);
        }

        @Override
        public Void visitNewArray(NewArrayTree tree, Void none) {
            due(12, inside().getKind() != ElementKind.METHOD, "an array made by a call, " + at(tree));
            for (ExpressionTree length : tree.getDimensions()) {
                due(7, isConstant(length), "a length that is not told, " + at(tree));
            }
            return super.visitNewArray(tree, none);
        }

        private boolean isConstant(ExpressionTree tree) {
            Element element = trees.getElement(trees.getPath(unit, tree));
            return tree instanceof LiteralTree || element instanceof javax.lang.model.element.VariableElement field
                && field.getConstantValue() instanceof Integer value && value >= 0;
        }

        private void keepCall(ExecutableElement called, Tree tree) {
            String owner = called.getEnclosingElement().toString();
            due(4, isOwn(owner) || LIBRARY.contains(owner + "." + called.getSimpleName()), at(tree));
            if (inside() instanceof ExecutableElement caller) calls.computeIfAbsent(caller, key -> new HashSet<>()).add(called);
        }

        @Override
        public Void visitBinary(BinaryTree tree, Void none) {
            boolean isWithText = isText(tree.getLeftOperand()) || isText(tree.getRightOperand());
            due(10, !isWithText, "texts joined or compared, " + at(tree));
            boolean divides = tree.getKind() == Tree.Kind.DIVIDE || tree.getKind() == Tree.Kind.REMAINDER;
            if (divides) due(7, isDivisor(tree.getRightOperand()), "a divisor that is not told, " + at(tree));
            return super.visitBinary(tree, none);
        }

        @Override
        public Void visitCompoundAssignment(CompoundAssignmentTree tree, Void none) {
            due(10, !isText(tree.getVariable()), "texts joined, " + at(tree));
            due(7, tree.getKind() != Tree.Kind.DIVIDE_ASSIGNMENT && tree.getKind() != Tree.Kind.REMAINDER_ASSIGNMENT,
                "a divisor, " + at(tree));
            return super.visitCompoundAssignment(tree, none);
        }

        private boolean isDivisor(ExpressionTree tree) {
            if (tree instanceof LiteralTree literal) return !literal.getValue().equals(0);
            Element element = trees.getElement(trees.getPath(unit, tree));
            return element instanceof javax.lang.model.element.VariableElement field
                && field.getConstantValue() instanceof Integer value && value != 0;
        }

        @Override
        public Void visitTypeCast(TypeCastTree tree, Void none) {
            due(6, PRIMITIVES.contains(trees.getTypeMirror(getCurrentPath()).toString()), "a cast, " + at(tree));
            return super.visitTypeCast(tree, none);
        }

        @Override
        public Void visitLiteral(LiteralTree tree, Void none) {
            String told = String.valueOf(tree.getValue());
            boolean isSign = tree.getValue() instanceof String || tree.getValue() instanceof Character;
            due(4, !isSign || told.chars().allMatch(c -> c >= 1 && c <= 127), "a sign, " + at(tree));
            return super.visitLiteral(tree, none);
        }

        // ---- how deep calls go ----

        /** How many calls stand open at most behind a call of a method, itself counted: the library's too. */
        private int depth(ExecutableElement method, List<ExecutableElement> open, Map<ExecutableElement, Integer> known) {
            if (known.containsKey(method)) return known.get(method);
            due(8, !open.contains(method), "recursion by " + method);
            if (open.contains(method)) return 0;
            List<ExecutableElement> withIt = new ArrayList<>(open);
            withIt.add(method);
            int deepest = 0;
            for (ExecutableElement called : calls.getOrDefault(method, Set.of())) {
                for (ExecutableElement meant : meantBy(called)) {
                    deepest = Math.max(deepest, depth(meant, withIt, known));
                }
            }
            known.put(method, deepest + 1);
            return deepest + 1;
        }

        /** A method and all that stand for it in the classes under its own. */
        private List<ExecutableElement> meantBy(ExecutableElement called) {
            List<ExecutableElement> meant = new ArrayList<>(List.of(called));
            for (ExecutableElement method : methods) {
                TypeElement owner = (TypeElement) method.getEnclosingElement();
                if (elements.overrides(method, called, owner)) meant.add(method);
            }
            return meant;
        }

        void lookAtDepth() {
            Map<ExecutableElement, Integer> known = new HashMap<>();
            for (ExecutableElement method : methods) {
                int depth = depth(method, List.of(), known);
                due(11, depth <= DEEPEST, depth + " calls deep: " + method);
            }
            due(11, classes <= MOST_CLASSES, classes + " classes");
        }
    }

    public static void main(String[] args) throws Exception {
        JavaCompiler compiler = ToolProvider.getSystemJavaCompiler();
        try (StandardJavaFileManager files = compiler.getStandardFileManager(null, null, null)) {
            List<String> options = List.of("-proc:none", "-encoding", "UTF-8");
            JavacTask task = (JavacTask) compiler.getTask(null, files, null, options, null, files.getJavaFileObjects(SOURCE));
            CompilationUnitTree unit = task.parse().iterator().next();
            task.analyze();
            Looker looker = new Looker(Trees.instance(task), task.getElements(), unit);
            looker.scan(unit, null);
            looker.lookAtDepth();
        }
        System.out.println("LanguageTests: " + looked + " places looked at, " + wrong + " not as due");
        if (wrong != 0) System.exit(1);
    }
}

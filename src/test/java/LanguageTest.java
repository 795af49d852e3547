import com.sun.source.tree.ArrayAccessTree;
import com.sun.source.tree.AssertTree;
import com.sun.source.tree.BinaryTree;
import com.sun.source.tree.BlockTree;
import com.sun.source.tree.ClassTree;
import com.sun.source.tree.CompilationUnitTree;
import com.sun.source.tree.CompoundAssignmentTree;
import com.sun.source.tree.DoWhileLoopTree;
import com.sun.source.tree.EnhancedForLoopTree;
import com.sun.source.tree.ExpressionTree;
import com.sun.source.tree.ForLoopTree;
import com.sun.source.tree.ImportTree;
import com.sun.source.tree.LambdaExpressionTree;
import com.sun.source.tree.LineMap;
import com.sun.source.tree.LiteralTree;
import com.sun.source.tree.MemberReferenceTree;
import com.sun.source.tree.MethodInvocationTree;
import com.sun.source.tree.MethodTree;
import com.sun.source.tree.NewArrayTree;
import com.sun.source.tree.NewClassTree;
import com.sun.source.tree.SynchronizedTree;
import com.sun.source.tree.ThrowTree;
import com.sun.source.tree.Tree;
import com.sun.source.tree.TryTree;
import com.sun.source.tree.TypeCastTree;
import com.sun.source.tree.VariableTree;
import com.sun.source.tree.WhileLoopTree;
import com.sun.source.util.JavacTask;
import com.sun.source.util.SourcePositions;
import com.sun.source.util.TreePathScanner;
import com.sun.source.util.Trees;
import java.io.IOException;
import java.lang.reflect.Array;
import java.lang.reflect.Field;
import java.lang.reflect.Modifier;
import java.nio.charset.StandardCharsets;
import java.nio.file.Files;
import java.nio.file.Path;
import java.util.ArrayList;
import java.util.HashMap;
import java.util.IdentityHashMap;
import java.util.LinkedHashSet;
import java.util.List;
import java.util.Map;
import java.util.Set;
import java.util.TreeSet;
import javax.lang.model.element.Element;
import javax.lang.model.element.ElementKind;
import javax.tools.JavaCompiler;
import javax.tools.StandardJavaFileManager;
import javax.tools.ToolProvider;

/**
 * The class keeps to ../shared/LANGUAGE.md. Where the class does with less than a rule leaves, the test asks for the
 * less (no list, no try, no while), for that is the easier to see; who needs more must loosen it here.
 */
public final class LanguageTest {
    private static final Path SOURCE = Path.of("src/main/java/Nudgelane.java");
    private static final Set<String> IMPORTS = Set.of("java.util.Arrays", "java.util.NoSuchElementException");
    private static final Set<String> LIBRARY = Set.of("Arrays.fill", "Math.min");
    private static final Set<String> PLAIN_TYPES = Set.of("int", "boolean", "int[]");
    private static final Set<String> EXCEPTIONS = Set.of("IndexOutOfBoundsException", "NoSuchElementException",
        "IllegalStateException", "IllegalArgumentException");
    private static final int MOST_PARAMETERS = 7;
    private static final int MOST_LINES = 60;
    private static final int MOST_CALLS_DEEP = 8;
    private static final int MOST_CLASSES = 12;
    private static final int MOST_FIELDS = 20;
    private static final int MOST_OBJECTS = 100;
    private static final int MOST_ELEMENTS = 12000;

    private static int wrong = 0;

    private static void broken(int rule, String what) {
        wrong++;
        System.out.println("rule " + rule + " of LANGUAGE.md: " + what);
    }

    private static void holds(int rule, boolean does, String what) {
        if (!does) {
            broken(rule, what);
        }
    }

    /** Goes through the whole file and notes which method calls which. */
    private static final class Reader extends TreePathScanner<Void, Void> {
        final Map<Element, Set<Element>> calls = new HashMap<>();
        final Set<String> ownClasses = new TreeSet<>();
        private final Trees trees;
        private final CompilationUnitTree file;
        private Element method;
        private MethodTree methodTree;

        Reader(Trees trees, CompilationUnitTree file) {
            this.trees = trees;
            this.file = file;
        }

        private String at(Tree tree) {
            SourcePositions positions = trees.getSourcePositions();
            LineMap lines = file.getLineMap();
            return "line " + lines.getLineNumber(positions.getStartPosition(file, tree));
        }

        private long linesOf(Tree tree) {
            SourcePositions positions = trees.getSourcePositions();
            LineMap lines = file.getLineMap();
            return lines.getLineNumber(positions.getEndPosition(file, tree))
                - lines.getLineNumber(positions.getStartPosition(file, tree)) + 1;
        }

        private boolean isInConstructor() {
            return method != null && method.getKind() == ElementKind.CONSTRUCTOR;
        }

        private boolean isOwnType(String type) {
            return PLAIN_TYPES.contains(type) || ownClasses.contains(type);
        }

        @Override
        public Void visitImport(ImportTree tree, Void none) {
            holds(4, IMPORTS.contains(tree.getQualifiedIdentifier().toString()), at(tree) + ": " + tree);
            return null;
        }

        @Override
        public Void visitClass(ClassTree tree, Void none) {
            ownClasses.add(tree.getSimpleName().toString());
            for (Tree member : tree.getMembers()) {
                if (member instanceof ClassTree) {
                    ownClasses.add(((ClassTree) member).getSimpleName().toString());
                }
            }
            int fields = 0;
            for (Tree member : tree.getMembers()) {
                if (member instanceof VariableTree) {
                    fields += checkField((VariableTree) member);
                }
                holds(5, !(member instanceof BlockTree), at(member) + ": a block that initialises");
            }
            holds(11, fields <= MOST_FIELDS, tree.getSimpleName() + " has " + fields + " fields");
            return super.visitClass(tree, none);
        }

        private int checkField(VariableTree field) {
            Set<javax.lang.model.element.Modifier> modifiers = field.getModifiers().getFlags();
            if (!modifiers.contains(javax.lang.model.element.Modifier.STATIC)) {
                return 1;
            }
            holds(5, modifiers.contains(javax.lang.model.element.Modifier.FINAL), at(field) + ": static, not final");
            holds(5, field.getType().toString().equals("int"), at(field) + ": a constant that is no int");
            return 0;
        }

        @Override
        public Void visitMethod(MethodTree tree, Void none) {
            Element outerMethod = method;
            MethodTree outerTree = methodTree;
            method = trees.getElement(getCurrentPath());
            methodTree = tree;
            calls.computeIfAbsent(method, key -> new LinkedHashSet<>());
            holds(11, tree.getParameters().size() <= MOST_PARAMETERS, at(tree) + ": parameters");
            holds(11, linesOf(tree) <= MOST_LINES, at(tree) + ": " + linesOf(tree) + " lines");
            if (tree.getReturnType() != null) {
                String type = tree.getReturnType().toString();
                holds(3, type.equals("void") || isOwnType(type), at(tree) + ": returns " + type);
            }
            super.visitMethod(tree, none);
            method = outerMethod;
            methodTree = outerTree;
            return null;
        }

        @Override
        public Void visitVariable(VariableTree tree, Void none) {
            holds(3, isOwnType(tree.getType().toString()), at(tree) + ": of the type " + tree.getType());
            return super.visitVariable(tree, none);
        }

        @Override
        public Void visitMethodInvocation(MethodInvocationTree tree, Void none) {
            Element called = trees.getElement(getCurrentPath());
            String owner = called.getEnclosingElement().getSimpleName().toString();
            if (ownClasses.contains(owner)) {
                calls.get(method).add(called);
            } else {
                String name = owner + "." + called.getSimpleName();
                holds(4, LIBRARY.contains(name) || name.equals("Object.<init>"), at(tree) + ": " + name);
            }
            return super.visitMethodInvocation(tree, none);
        }

        @Override
        public Void visitNewClass(NewClassTree tree, Void none) {
            boolean isThrown = getCurrentPath().getParentPath().getLeaf() instanceof ThrowTree;
            holds(12, isThrown || isInConstructor(), at(tree) + ": an object made behind the constructor");
            holds(2, tree.getClassBody() == null, at(tree) + ": a class without a name");
            if (!isThrown) {
                calls.get(method).add(trees.getElement(getCurrentPath()));
            }
            return super.visitNewClass(tree, none);
        }

        @Override
        public Void visitNewArray(NewArrayTree tree, Void none) {
            holds(12, isInConstructor(), at(tree) + ": an array made behind the constructor");
            for (ExpressionTree length : tree.getDimensions()) {
                holds(7, length.toString().contains(" > 0 ? "), at(tree) + ": a length that is not looked at");
            }
            return super.visitNewArray(tree, none);
        }

        @Override
        public Void visitArrayAccess(ArrayAccessTree tree, Void none) {
            String looked = tree.getIndex() + " >= 0 && " + tree.getIndex() + " < " + tree.getExpression() + ".length";
            holds(7, methodTree.getBody().toString().contains(looked), at(tree) + ": an index that is not looked at");
            return super.visitArrayAccess(tree, none);
        }

        private void checkDivisor(Tree tree, ExpressionTree divisor) {
            String name = divisor.toString();
            boolean isConstant = name.equals("STATEMENTS");
            boolean isLookedAt = methodTree.getBody().toString().contains(name + " > 0 ? ");
            holds(7, isConstant || isLookedAt, at(tree) + ": a divisor that is not looked at");
        }

        @Override
        public Void visitBinary(BinaryTree tree, Void none) {
            if (tree.getKind() == Tree.Kind.DIVIDE || tree.getKind() == Tree.Kind.REMAINDER) {
                checkDivisor(tree, tree.getRightOperand());
            }
            return super.visitBinary(tree, none);
        }

        @Override
        public Void visitCompoundAssignment(CompoundAssignmentTree tree, Void none) {
            if (tree.getKind() == Tree.Kind.DIVIDE_ASSIGNMENT || tree.getKind() == Tree.Kind.REMAINDER_ASSIGNMENT) {
                checkDivisor(tree, tree.getExpression());
            }
            return super.visitCompoundAssignment(tree, none);
        }

        @Override
        public Void visitThrow(ThrowTree tree, Void none) {
            boolean isNew = tree.getExpression() instanceof NewClassTree;
            holds(6, isNew, at(tree) + ": no new exception");
            holds(6, !isInConstructor(), at(tree) + ": thrown in a constructor");
            if (isNew) {
                checkThrown((NewClassTree) tree.getExpression());
            }
            return super.visitThrow(tree, none);
        }

        private void checkThrown(NewClassTree made) {
            holds(6, EXCEPTIONS.contains(made.getIdentifier().toString()), at(made) + ": " + made.getIdentifier());
            for (ExpressionTree text : made.getArguments()) {
                holds(6, text instanceof LiteralTree, at(made) + ": a text that is not written out");
            }
        }

        @Override
        public Void visitLiteral(LiteralTree tree, Void none) {
            boolean isText = tree.getValue() instanceof String;
            boolean isInThrow = getCurrentPath().getParentPath().getLeaf() instanceof NewClassTree;
            holds(10, !isText || isInThrow, at(tree) + ": a text outside a throw");
            holds(7, tree.getKind() != Tree.Kind.NULL_LITERAL, at(tree) + ": null");
            return super.visitLiteral(tree, none);
        }

        @Override
        public Void visitForLoop(ForLoopTree tree, Void none) {
            String end = String.valueOf(tree.getCondition());
            holds(9, end.contains(" < ") || end.contains(" <= ") || end.contains(" >= 0") || end.contains(" > 0"),
                at(tree) + ": no counter against a bound");
            holds(9, tree.getUpdate().size() == 1, at(tree) + ": no counter");
            return super.visitForLoop(tree, none);
        }

        @Override
        public Void visitWhileLoop(WhileLoopTree tree, Void none) {
            broken(9, at(tree) + ": while");
            return super.visitWhileLoop(tree, none);
        }

        @Override
        public Void visitDoWhileLoop(DoWhileLoopTree tree, Void none) {
            broken(9, at(tree) + ": do");
            return super.visitDoWhileLoop(tree, none);
        }

        @Override
        public Void visitEnhancedForLoop(EnhancedForLoopTree tree, Void none) {
            broken(12, at(tree) + ": a loop not by index");
            return super.visitEnhancedForLoop(tree, none);
        }

        @Override
        public Void visitLambdaExpression(LambdaExpressionTree tree, Void none) {
            broken(2, at(tree) + ": a lambda");
            return super.visitLambdaExpression(tree, none);
        }

        @Override
        public Void visitMemberReference(MemberReferenceTree tree, Void none) {
            broken(2, at(tree) + ": a method reference");
            return super.visitMemberReference(tree, none);
        }

        @Override
        public Void visitTry(TryTree tree, Void none) {
            broken(6, at(tree) + ": try");
            return super.visitTry(tree, none);
        }

        @Override
        public Void visitSynchronized(SynchronizedTree tree, Void none) {
            broken(6, at(tree) + ": synchronized");
            return super.visitSynchronized(tree, none);
        }

        @Override
        public Void visitAssert(AssertTree tree, Void none) {
            broken(6, at(tree) + ": assert");
            return super.visitAssert(tree, none);
        }

        @Override
        public Void visitTypeCast(TypeCastTree tree, Void none) {
            broken(6, at(tree) + ": a cast");
            return super.visitTypeCast(tree, none);
        }
    }

    /** How many methods stand open at most, from this one on. */
    private static int depth(Element method, Map<Element, Set<Element>> calls, List<Element> open) {
        if (open.contains(method)) {
            broken(8, method + " calls itself");
            return 0;
        }
        open.add(method);
        int deepest = 0;
        for (Element called : calls.getOrDefault(method, Set.of())) {
            deepest = Math.max(deepest, depth(called, calls, open));
        }
        open.remove(open.size() - 1);
        return deepest + 1;
    }

    private static void checkDepths(Map<Element, Set<Element>> calls) {
        for (Element method : calls.keySet()) {
            int depth = depth(method, calls, new ArrayList<>());
            holds(11, depth <= MOST_CALLS_DEEP, method + " goes " + depth + " calls deep");
        }
    }

    private static void checkSource() throws IOException {
        String text = Files.readString(SOURCE, StandardCharsets.UTF_8);
        holds(4, text.chars().allMatch(sign -> sign > 0 && sign < 128), "a sign above 127");
        JavaCompiler compiler = ToolProvider.getSystemJavaCompiler();
        try (StandardJavaFileManager files = compiler.getStandardFileManager(null, null, StandardCharsets.UTF_8)) {
            JavacTask task = (JavacTask) compiler.getTask(null, files, null, List.of("-proc:none"), null,
                files.getJavaFileObjects(SOURCE));
            CompilationUnitTree file = task.parse().iterator().next();
            task.analyze();
            holds(1, file.getPackageName() == null, "a package");
            holds(1, file.getTypeDecls().size() == 1, "not just one class in the file");
            Reader reader = new Reader(Trees.instance(task), file);
            reader.scan(file, null);
            holds(11, reader.ownClasses.size() <= MOST_CLASSES, reader.ownClasses.size() + " classes");
            checkDepths(reader.calls);
        }
    }

    /** Counts the objects and arrays that one object of the class holds, and their fields and elements. */
    private static void checkRoom() throws IllegalAccessException {
        Map<Object, Boolean> seen = new IdentityHashMap<>();
        List<Object> waiting = new ArrayList<>(List.of(new Nudgelane()));
        int elements = 0;
        while (!waiting.isEmpty()) {
            Object here = waiting.remove(waiting.size() - 1);
            if (seen.put(here, true) == null) {
                elements += here.getClass().isArray() ? Array.getLength(here) : addFields(here, waiting);
            }
        }
        holds(12, seen.size() <= MOST_OBJECTS, seen.size() + " objects and arrays");
        holds(12, elements <= MOST_ELEMENTS, elements + " fields and elements");
    }

    private static int addFields(Object here, List<Object> waiting) throws IllegalAccessException {
        int fields = 0;
        for (Field field : here.getClass().getDeclaredFields()) {
            if (!Modifier.isStatic(field.getModifiers())) {
                fields++;
                field.setAccessible(true);
                if (!field.getType().isPrimitive()) {
                    waiting.add(field.get(here));
                }
            }
        }
        return fields;
    }

    public static void main(String[] args) throws IOException, IllegalAccessException {
        checkSource();
        checkRoom();
        System.out.println(wrong == 0 ? "the class keeps to the language" : wrong + " things are not as due");
        if (wrong != 0) {
            System.exit(1);
        }
    }
}

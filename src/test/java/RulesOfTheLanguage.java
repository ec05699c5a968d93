import com.sun.source.tree.*;
import com.sun.source.util.JavacTask;
import com.sun.source.util.TreePath;
import com.sun.source.util.TreePathScanner;
import com.sun.source.util.Trees;
import java.io.File;
import java.io.IOException;
import java.util.ArrayList;
import java.util.Arrays;
import java.util.HashMap;
import java.util.HashSet;
import java.util.LinkedHashMap;
import java.util.LinkedHashSet;
import java.util.List;
import java.util.Map;
import java.util.Set;
import javax.lang.model.element.Element;
import javax.lang.model.element.ElementKind;
import javax.lang.model.element.ExecutableElement;
import javax.lang.model.element.Modifier;
import javax.lang.model.element.TypeElement;
import javax.lang.model.element.VariableElement;
import javax.lang.model.type.ArrayType;
import javax.lang.model.type.DeclaredType;
import javax.lang.model.type.TypeKind;
import javax.lang.model.type.TypeMirror;
import javax.tools.JavaCompiler;
import javax.tools.StandardJavaFileManager;
import javax.tools.ToolProvider;

/**
 * Those rules of LANGUAGE.md that can be seen in the text of the class, as the compiler reads it. Where the class
 * needs less than a rule leaves (no lists, no try, no text but of exceptions), only what it needs is taken here:
 * whoever needs more adds it to this test, with a look at the rule.
 */
public final class RulesOfTheLanguage {
    private static final String PROGRAM = "src/main/java/ColumnarPress.java";
    private static final int MOST_CLASSES = 12;
    private static final int MOST_FIELDS = 20;
    private static final int MOST_LINES = 60;
    private static final int MOST_PARAMETERS = 7;
    private static final int DEEPEST_CALLS = 8;

    private static final Set<String> IMPORTS = set("java.util.Arrays", "java.util.NoSuchElementException");
    private static final Set<String> LIBRARY = set("Math.max(int,int)", "Math.min(int,int)", "Arrays.fill(int[],int)");
    private static final Set<String> EXCEPTIONS = set("IllegalStateException", "IllegalArgumentException",
            "IndexOutOfBoundsException", "ArithmeticException", "UnsupportedOperationException",
            "NoSuchElementException", "RuntimeException");
    /** The methods of the boxes and of the layout that make objects: both are called by add alone. */
    private static final Set<String> MAKERS = set("Tree.grow", "Layout.grow");

    private static int wrong = 0;
    private static int looks = 0;

    private final Trees trees;
    private final CompilationUnitTree unit;
    /** What each method and constructor of the program calls of the program. */
    private final Map<ExecutableElement, Set<ExecutableElement>> calls = new LinkedHashMap<>();

    private RulesOfTheLanguage(Trees trees, CompilationUnitTree unit) {
        this.trees = trees;
        this.unit = unit;
    }

    public static void main(String[] args) throws IOException {
        JavaCompiler compiler = ToolProvider.getSystemJavaCompiler();
        StandardJavaFileManager files = compiler.getStandardFileManager(null, null, null);
        JavacTask task = (JavacTask) compiler.getTask(null, files, null, List.of("-proc:none"), null,
                files.getJavaFileObjects(new File(args.length > 0 ? args[0] : PROGRAM)));
        CompilationUnitTree unit = task.parse().iterator().next();
        task.analyze();
        RulesOfTheLanguage rules = new RulesOfTheLanguage(Trees.instance(task), unit);
        rules.ofTheFile();
        rules.new Scan().scan(unit, null);
        rules.ofCalls();
        System.out.println(looks + " looks at the text, " + wrong + " wrong");
        if (wrong != 0) System.exit(1);
    }

    private static Set<String> set(String... of) { return new HashSet<>(Arrays.asList(of)); }

    private void holds(int rule, boolean holds, Tree where, String what) {
        looks++;
        if (holds) return;
        wrong++;
        System.out.println("rule " + rule + ", line " + lineOf(where) + ": " + what);
    }

    private long lineOf(Tree tree) {
        return unit.getLineMap().getLineNumber(trees.getSourcePositions().getStartPosition(unit, tree));
    }

    private long linesOf(Tree tree) {
        return unit.getLineMap().getLineNumber(trees.getSourcePositions().getEndPosition(unit, tree)) - lineOf(tree) + 1;
    }

    private void ofTheFile() throws IOException {
        String text = unit.getSourceFile().getCharContent(true).toString();
        holds(4, text.chars().allMatch(sign -> sign > 0 && sign < 128), unit, "all signs are 1 to 127");
        holds(1, unit.getPackageName() == null, unit, "there is no package");
        holds(1, unit.getTypeDecls().size() == 1, unit, "there is one public class");
        for (ImportTree each : unit.getImports()) {
            holds(4, IMPORTS.contains(each.getQualifiedIdentifier().toString()), each, "import of the library");
        }
    }

    // ---- types

    private static boolean isOwn(Element e) {
        while (e != null && e.getKind() != ElementKind.PACKAGE) {
            if (e.getSimpleName().contentEquals("ColumnarPress")) return true;
            e = e.getEnclosingElement();
        }
        return false;
    }

    private static boolean isOwn(TypeMirror type) {
        return type.getKind() == TypeKind.DECLARED && isOwn(((DeclaredType) type).asElement());
    }

    private static boolean isString(TypeMirror type) { return type != null && type.toString().equals("java.lang.String"); }

    private static boolean isKnown(TypeMirror type) {
        if (type.getKind() != TypeKind.ARRAY) return type.getKind().isPrimitive() || type.getKind() == TypeKind.VOID || isOwn(type);
        TypeMirror of = ((ArrayType) type).getComponentType();
        return of.getKind().isPrimitive() || isOwn(of);
    }

    private static String nameOf(ExecutableElement e) {
        return e.getEnclosingElement().getSimpleName() + "." + e.getSimpleName();
    }

    /** What the program looks like, tree by tree. */
    private final class Scan extends TreePathScanner<Void, Void> {
        private int classes = 0;
        private ExecutableElement method = null;

        private Element elementOf(Tree tree) { return trees.getElement(new TreePath(getCurrentPath(), tree)); }

        private TypeMirror typeOf(Tree tree) { return trees.getTypeMirror(new TreePath(getCurrentPath(), tree)); }

        private void refuse(int rule, Tree tree, String what) { holds(rule, false, tree, what); }

        @Override public Void visitCompilationUnit(CompilationUnitTree tree, Void none) {
            super.visitCompilationUnit(tree, none);
            holds(11, classes <= MOST_CLASSES, tree, "there are some twelve classes, and not " + classes);
            return null;
        }

        @Override public Void visitClass(ClassTree tree, Void none) {
            classes++;
            TypeElement type = (TypeElement) trees.getElement(getCurrentPath());
            holds(2, type.getNestingKind().isNested() == classes > 1 && method == null, tree, "no class inside a method");
            if (classes > 1) {
                Set<Modifier> of = type.getModifiers();
                holds(1, of.contains(Modifier.STATIC) && !of.contains(Modifier.PUBLIC) && !of.contains(Modifier.PROTECTED),
                        tree, type + " is static and not to be seen");
            }
            int fields = 0;
            for (Element e : type.getEnclosedElements()) {
                if (e.getKind() == ElementKind.FIELD && !e.getModifiers().contains(Modifier.STATIC)) fields++;
            }
            holds(11, fields <= MOST_FIELDS, tree, type + " has some twenty fields, and not " + fields);
            return super.visitClass(tree, none);
        }

        @Override public Void visitBlock(BlockTree tree, Void none) {
            Tree around = getCurrentPath().getParentPath().getLeaf();
            holds(5, !(around instanceof ClassTree), tree, "no block of an initialiser");
            return super.visitBlock(tree, none);
        }

        @Override public Void visitVariable(VariableTree tree, Void none) {
            VariableElement e = (VariableElement) trees.getElement(getCurrentPath());
            holds(3, isKnown(e.asType()), tree, e + " is of a type of its own or of numbers");
            if (e.getModifiers().contains(Modifier.STATIC)) {
                boolean isConstant = e.getModifiers().contains(Modifier.FINAL) && e.getConstantValue() != null;
                holds(5, isConstant, tree, e + " is a constant");
            }
            return super.visitVariable(tree, none);
        }

        @Override public Void visitMethod(MethodTree tree, Void none) {
            ExecutableElement outer = method;
            method = (ExecutableElement) trees.getElement(getCurrentPath());
            calls.computeIfAbsent(method, key -> new LinkedHashSet<>());
            holds(3, isKnown(method.getReturnType()), tree, method + " answers what it may");
            holds(11, tree.getParameters().size() <= MOST_PARAMETERS, tree, method + " takes at most seven");
            holds(11, linesOf(tree) <= MOST_LINES, tree, method + " is short");
            super.visitMethod(tree, none);
            method = outer;
            return null;
        }

        @Override public Void visitMethodInvocation(MethodInvocationTree tree, Void none) {
            ExecutableElement called = (ExecutableElement) elementOf(tree.getMethodSelect());
            if (isOwn(called)) {
                if (method != null) calls.get(method).add(called);
            } else if (called.getKind() != ElementKind.CONSTRUCTOR) {
                String name = called.getEnclosingElement().getSimpleName() + "." + called;
                holds(4, LIBRARY.contains(name), tree, "there is no " + name);
            }
            return super.visitMethodInvocation(tree, none);
        }

        @Override public Void visitNewClass(NewClassTree tree, Void none) {
            holds(2, tree.getClassBody() == null, tree, "no class without a name");
            ExecutableElement made = (ExecutableElement) trees.getElement(getCurrentPath());
            if (isOwn(made)) {
                needMaker(tree);
                if (method != null) calls.get(method).add(made);
            } else {
                holds(6, getCurrentPath().getParentPath().getLeaf() instanceof ThrowTree, tree, "no other object than its own");
            }
            return super.visitNewClass(tree, none);
        }

        @Override public Void visitNewArray(NewArrayTree tree, Void none) {
            needMaker(tree);
            holds(3, tree.getDimensions().size() == 1, tree, "an array of one dimension");
            return super.visitNewArray(tree, none);
        }

        /** An object is made for a field, by a constructor, or by add. */
        private void needMaker(Tree tree) {
            boolean may = method == null || method.getKind() == ElementKind.CONSTRUCTOR || MAKERS.contains(nameOf(method));
            holds(12, may, tree, "objects are made by constructors and by add");
        }

        @Override public Void visitThrow(ThrowTree tree, Void none) {
            boolean isNew = tree.getExpression() instanceof NewClassTree;
            holds(6, isNew && method.getKind() != ElementKind.CONSTRUCTOR, tree, "throw new, and in no constructor");
            if (isNew) {
                NewClassTree made = (NewClassTree) tree.getExpression();
                holds(6, EXCEPTIONS.contains(made.getIdentifier().toString()), tree, "one of the seven");
                for (ExpressionTree e : made.getArguments()) holds(6, e.getKind() == Tree.Kind.STRING_LITERAL, tree, "a written text");
                holds(6, made.getArguments().size() <= 1, tree, "one text");
            }
            return super.visitThrow(tree, none);
        }

        @Override public Void visitLiteral(LiteralTree tree, Void none) {
            Object value = tree.getValue();
            if (value instanceof String || value instanceof Character) {
                boolean isPlain = value.toString().chars().allMatch(sign -> sign > 0 && sign < 128);
                holds(4, isPlain, tree, "the signs of a constant are 1 to 127");
            }
            return super.visitLiteral(tree, none);
        }

        @Override public Void visitTypeCast(TypeCastTree tree, Void none) {
            holds(6, typeOf(tree.getType()).getKind().isPrimitive(), tree, "a cast among numbers");
            return super.visitTypeCast(tree, none);
        }

        @Override public Void visitBinary(BinaryTree tree, Void none) {
            TypeMirror left = typeOf(tree.getLeftOperand());
            TypeMirror right = typeOf(tree.getRightOperand());
            holds(10, !isString(left) && !isString(right), tree, "no text is joined or compared");
            if (tree.getKind() == Tree.Kind.EQUAL_TO || tree.getKind() == Tree.Kind.NOT_EQUAL_TO) {
                holds(6, left.getKind().isPrimitive() && right.getKind().isPrimitive(), tree, "numbers are compared");
            }
            if (tree.getKind() == Tree.Kind.REMAINDER) {
                holds(3, !isBroken(left) && !isBroken(right), tree, "no remainder of doubles");
            }
            return super.visitBinary(tree, none);
        }

        private boolean isBroken(TypeMirror type) {
            return type.getKind() == TypeKind.DOUBLE || type.getKind() == TypeKind.FLOAT;
        }

        @Override public Void visitForLoop(ForLoopTree tree, Void none) {
            holds(9, tree.getCondition() != null, tree, "the loop has an end");
            return super.visitForLoop(tree, none);
        }

        @Override public Void visitWhileLoop(WhileLoopTree tree, Void none) {
            holds(9, !tree.getCondition().toString().equals("(true)"), tree, "the loop has an end");
            return super.visitWhileLoop(tree, none);
        }

        @Override public Void visitEnhancedForLoop(EnhancedForLoopTree tree, Void none) {
            holds(9, typeOf(tree.getExpression()).getKind() == TypeKind.ARRAY, tree, "a loop over an array");
            return super.visitEnhancedForLoop(tree, none);
        }

        @Override public Void visitLambdaExpression(LambdaExpressionTree tree, Void none) {
            refuse(2, tree, "no lambda");
            return null;
        }

        @Override public Void visitMemberReference(MemberReferenceTree tree, Void none) {
            refuse(2, tree, "no reference to a method");
            return null;
        }

        @Override public Void visitTry(TryTree tree, Void none) {
            refuse(6, tree, "no try");
            return super.visitTry(tree, none);
        }

        @Override public Void visitSynchronized(SynchronizedTree tree, Void none) {
            refuse(6, tree, "no synchronized");
            return super.visitSynchronized(tree, none);
        }

        @Override public Void visitAssert(AssertTree tree, Void none) {
            refuse(6, tree, "no assert");
            return super.visitAssert(tree, none);
        }

        @Override public Void visitInstanceOf(InstanceOfTree tree, Void none) {
            refuse(6, tree, "no instanceof");
            return super.visitInstanceOf(tree, none);
        }

        @Override public Void visitAnnotation(AnnotationTree tree, Void none) {
            refuse(4, tree, "no annotation");
            return super.visitAnnotation(tree, none);
        }
    }

    // ---- calls

    /** Methods that call one another are private (rule 8), and the others go at most eight deep (rule 11). */
    private void ofCalls() {
        Map<ExecutableElement, Set<ExecutableElement>> reached = new HashMap<>();
        for (ExecutableElement e : calls.keySet()) reached.put(e, reachedFrom(e));
        for (ExecutableElement e : calls.keySet()) {
            Tree where = trees.getTree(e) != null ? trees.getTree(e) : unit;
            boolean recurs = reached.get(e).contains(e);
            holds(8, !recurs || e.getModifiers().contains(Modifier.PRIVATE), where, nameOf(e) + " calls itself");
            List<String> way = deepest(e, reached, new HashMap<>());
            holds(11, way.size() <= DEEPEST_CALLS, where, "calls go too deep: " + way);
        }
    }

    private Set<ExecutableElement> reachedFrom(ExecutableElement from) {
        Set<ExecutableElement> seen = new LinkedHashSet<>();
        List<ExecutableElement> next = new ArrayList<>(List.of(from));
        while (!next.isEmpty()) {
            for (ExecutableElement e : calls.getOrDefault(next.remove(next.size() - 1), Set.of())) {
                if (seen.add(e)) next.add(e);
            }
        }
        return seen;
    }

    /** The longest chain of calls, in which all methods that call one another count once. */
    private List<String> deepest(ExecutableElement from, Map<ExecutableElement, Set<ExecutableElement>> reached,
            Map<ExecutableElement, List<String>> known) {
        if (known.containsKey(from)) return known.get(from);
        Set<ExecutableElement> circle = new LinkedHashSet<>(List.of(from));
        for (ExecutableElement e : reached.get(from)) {
            if (reached.containsKey(e) && reached.get(e).contains(from)) circle.add(e);
        }
        List<String> longest = List.of();
        for (ExecutableElement inside : circle) {
            for (ExecutableElement e : calls.get(inside)) {
                if (circle.contains(e) || !calls.containsKey(e)) continue;
                List<String> way = deepest(e, reached, known);
                if (way.size() > longest.size()) longest = way;
            }
        }
        List<String> all = new ArrayList<>(List.of(nameOf(from)));
        all.addAll(longest);
        for (ExecutableElement inside : circle) known.put(inside, all);
        return all;
    }
}

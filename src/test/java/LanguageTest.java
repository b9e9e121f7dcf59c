import com.sun.source.tree.AssertTree;
import com.sun.source.tree.BinaryTree;
import com.sun.source.tree.BlockTree;
import com.sun.source.tree.ClassTree;
import com.sun.source.tree.CompilationUnitTree;
import com.sun.source.tree.DoWhileLoopTree;
import com.sun.source.tree.ExpressionTree;
import com.sun.source.tree.ForLoopTree;
import com.sun.source.tree.LambdaExpressionTree;
import com.sun.source.tree.LiteralTree;
import com.sun.source.tree.MemberReferenceTree;
import com.sun.source.tree.MemberSelectTree;
import com.sun.source.tree.MethodInvocationTree;
import com.sun.source.tree.MethodTree;
import com.sun.source.tree.NewClassTree;
import com.sun.source.tree.ParenthesizedTree;
import com.sun.source.tree.SynchronizedTree;
import com.sun.source.tree.ThrowTree;
import com.sun.source.tree.Tree;
import com.sun.source.tree.TryTree;
import com.sun.source.tree.TypeCastTree;
import com.sun.source.tree.VariableTree;
import com.sun.source.tree.WhileLoopTree;
import com.sun.source.util.JavacTask;
import com.sun.source.util.TreePathScanner;
import com.sun.source.util.Trees;
import java.nio.file.Path;
import java.util.ArrayList;
import java.util.HashMap;
import java.util.HashSet;
import java.util.LinkedHashMap;
import java.util.List;
import java.util.Map;
import java.util.Set;
import javax.lang.model.element.Element;
import javax.lang.model.element.ElementKind;
import javax.lang.model.element.ExecutableElement;
import javax.lang.model.element.Modifier;
import javax.lang.model.element.TypeElement;
import javax.lang.model.type.ArrayType;
import javax.lang.model.type.TypeKind;
import javax.lang.model.type.TypeMirror;
import javax.tools.JavaCompiler;
import javax.tools.StandardJavaFileManager;
import javax.tools.ToolProvider;

/** The rules of ../shared/LANGUAGE.md, by their numbers, held against the file as the compiler understands it. */
public final class LanguageTest extends TreePathScanner<Void, Void> {
    private static final Path FILE = Path.of("src/main/java/FloorsByLot.java");

    /** All that rule 4 lists of what the file could call, and takes a number, a sign or an array of numbers. */
    private static final Set<String> LIBRARY = Set.of(
        "String.length()", "String.charAt(int)", "String.isEmpty()", "String.indexOf(int)", "String.substring(int)",
        "String.substring(int,int)", "String.toCharArray()", "System.arraycopy(java.lang.Object,int,java.lang.Object,int,int)");
    private static final Set<String> OVER_ARRAYS = Set.of("copyOf", "copyOfRange", "fill");

    private static int wrong = 0;
    private final Trees trees;
    private final CompilationUnitTree unit;
    private final Map<String, Set<String>> calls = new LinkedHashMap<>();
    private final Map<String, MethodTree> methods = new LinkedHashMap<>();
    private String caller = "";
    private int classes = 0;

    private LanguageTest(Trees trees, CompilationUnitTree unit) {
        this.trees = trees;
        this.unit = unit;
    }

    public static void main(String[] args) throws Exception {
        JavaCompiler javac = ToolProvider.getSystemJavaCompiler();
        try (StandardJavaFileManager files = javac.getStandardFileManager(null, null, null)) {
            JavacTask task = (JavacTask) javac.getTask(null, files, null, List.of("--release", "17"), null, files.getJavaFileObjects(FILE));
            List<CompilationUnitTree> units = new ArrayList<>();
            task.parse().forEach(units::add);
            task.analyze();
            LanguageTest test = new LanguageTest(Trees.instance(task), units.get(0));
            test.scan(units.get(0), null);
            test.checkFile();
            test.checkCalls();
        }
        System.out.println(wrong == 0 ? "the file keeps to the language" : wrong + " rules are broken");
        if (wrong != 0) {
            System.exit(1);
        }
    }

    private void broken(int rule, Tree at, String why) {
        wrong++;
        long line = unit.getLineMap().getLineNumber(Math.max(0, trees.getSourcePositions().getStartPosition(unit, at)));
        System.out.println("rule " + rule + ", line " + line + ": " + why);
    }

    private long lineOf(long place) {
        return unit.getLineMap().getLineNumber(place);
    }

    private void checkFile() {
        if (unit.getPackageName() != null || unit.getTypeDecls().size() != 1) {
            broken(1, unit, "a package line, or more than one class in the file");
        }
        if (classes > 12) {
            broken(11, unit, classes + " classes");
        }
    }

    @Override
    public Void visitClass(ClassTree tree, Void none) {
        classes++;
        Set<Modifier> marks = tree.getModifiers().getFlags();
        boolean outer = classes == 1;
        if (!outer && (!marks.contains(Modifier.STATIC) || marks.contains(Modifier.PUBLIC))) {
            broken(2, tree, "a class inside that isn't static, or is public");
        }
        if (tree.getKind() != Tree.Kind.CLASS || tree.getExtendsClause() != null || !tree.getImplementsClause().isEmpty()) {
            broken(2, tree, "a kind of class that this test knows no rule for yet");
        }
        long fields = tree.getMembers().stream().filter(m -> m instanceof VariableTree v && !isStatic(v)).count();
        if (fields > 20) {
            broken(11, tree, fields + " fields");
        }
        for (Tree member : tree.getMembers()) {
            if (member instanceof BlockTree) {
                broken(5, member, "an initialiser block");
            }
        }
        return super.visitClass(tree, none);
    }

    private static boolean isStatic(VariableTree tree) {
        return tree.getModifiers().getFlags().contains(Modifier.STATIC);
    }

    @Override
    public Void visitVariable(VariableTree tree, Void none) {
        TypeMirror type = trees.getTypeMirror(getCurrentPath());
        if (!isAllowed(type)) {
            broken(3, tree, "the type " + type);
        }
        if (isStatic(tree)) {
            boolean constant = type.getKind().isPrimitive() || type.toString().equals("java.lang.String");
            if (!constant || !tree.getModifiers().getFlags().contains(Modifier.FINAL) || tree.getInitializer() == null) {
                broken(5, tree, "static state: " + tree.getName());
            }
        }
        return super.visitVariable(tree, none);
    }

    private static boolean isAllowed(TypeMirror type) {
        TypeMirror bare = type instanceof ArrayType array ? array.getComponentType() : type;
        TypeKind kind = bare.getKind();
        if (kind == TypeKind.DOUBLE || kind == TypeKind.FLOAT) {
            return false;
        }
        return kind.isPrimitive() || bare.toString().startsWith("FloorsByLot") || type.toString().equals("java.lang.String");
    }

    @Override
    public Void visitMethod(MethodTree tree, Void none) {
        ExecutableElement self = (ExecutableElement) trees.getElement(getCurrentPath());
        caller = nameOf(self);
        methods.put(caller, tree);
        calls.put(caller, new HashSet<>());
        if (tree.getParameters().size() > 7) {
            broken(11, tree, tree.getParameters().size() + " parameters");
        }
        long from = trees.getSourcePositions().getStartPosition(unit, tree);
        long to = trees.getSourcePositions().getEndPosition(unit, tree);
        long lines = lineOf(to) - lineOf(from) + 1;
        if (lines > 60) {
            broken(11, tree, tree.getName() + " has " + lines + " lines");
        }
        if (!tree.getThrows().isEmpty()) {
            broken(6, tree, "throws");
        }
        if (Set.of("equals", "hashCode", "toString").contains(tree.getName().toString())) {
            broken(6, tree, "own " + tree.getName());
        }
        Void answer = super.visitMethod(tree, none);
        caller = "";
        return answer;
    }

    private static String nameOf(ExecutableElement method) {
        return method.getEnclosingElement().getSimpleName() + "." + method;
    }

    @Override
    public Void visitMethodInvocation(MethodInvocationTree tree, Void none) {
        ExecutableElement called = (ExecutableElement) trees.getElement(new com.sun.source.util.TreePath(getCurrentPath(), tree.getMethodSelect()));
        TypeElement owner = (TypeElement) called.getEnclosingElement();
        if (isOwn(owner)) {
            if (calls.containsKey(caller)) {
                calls.get(caller).add(nameOf(called));
            }
        } else if (called.getKind() != ElementKind.CONSTRUCTOR && !isListed(owner, called)) {
            broken(4, tree, "calls " + owner + "." + called);
        }
        return super.visitMethodInvocation(tree, none);
    }

    private static boolean isOwn(Element owner) {
        return owner.toString().startsWith("FloorsByLot");
    }

    private static boolean isListed(TypeElement owner, ExecutableElement called) {
        String name = called.getSimpleName().toString();
        switch (owner.toString()) {
            case "java.util.Arrays":
                return OVER_ARRAYS.contains(name) && !called.toString().contains("Object");
            case "java.lang.Math": case "java.lang.Integer": case "java.lang.Long":
                return called.getModifiers().contains(Modifier.STATIC) && !name.endsWith("Exact")
                    && called.getParameters().stream().allMatch(p -> p.asType().getKind() == TypeKind.INT || p.asType().getKind() == TypeKind.LONG);
            default:
                return LIBRARY.contains(owner.getSimpleName() + "." + called);
        }
    }

    @Override
    public Void visitMemberSelect(MemberSelectTree tree, Void none) {
        Element field = trees.getElement(getCurrentPath());
        if (field != null && field.getKind() == ElementKind.FIELD && !isOwn(field.getEnclosingElement())
            && !tree.getIdentifier().contentEquals("length")) {
            broken(4, tree, "a constant of the library: " + tree);
        }
        return super.visitMemberSelect(tree, none);
    }

    @Override
    public Void visitNewClass(NewClassTree tree, Void none) {
        if (tree.getClassBody() != null) {
            broken(2, tree, "a class without a name");
        }
        if (!isOwn(trees.getElement(getCurrentPath()).getEnclosingElement())) {
            broken(4, tree, "an object of the library");
        }
        return super.visitNewClass(tree, none);
    }

    @Override
    public Void visitTypeCast(TypeCastTree tree, Void none) {
        if (!trees.getTypeMirror(getCurrentPath()).getKind().isPrimitive()) {
            broken(6, tree, "a cast of an object");
        }
        return super.visitTypeCast(tree, none);
    }

    @Override
    public Void visitBinary(BinaryTree tree, Void none) {
        for (ExpressionTree side : List.of(tree.getLeftOperand(), tree.getRightOperand())) {
            TypeMirror type = trees.getTypeMirror(new com.sun.source.util.TreePath(getCurrentPath(), side));
            if (type != null && (type.toString().equals("java.lang.String") || type.toString().equals("java.lang.Integer"))) {
                broken(tree.getKind() == Tree.Kind.PLUS ? 10 : 6, tree, "a sign between texts: " + tree);
            }
        }
        return super.visitBinary(tree, none);
    }

    @Override
    public Void visitLiteral(LiteralTree tree, Void none) {
        if (tree.getValue() instanceof String text && !text.chars().allMatch(sign -> sign >= 1 && sign <= 127)) {
            broken(4, tree, "a text with a sign beyond 127");
        }
        return super.visitLiteral(tree, none);
    }

    @Override
    public Void visitLambdaExpression(LambdaExpressionTree tree, Void none) {
        broken(2, tree, "a lambda");
        return null;
    }

    @Override
    public Void visitMemberReference(MemberReferenceTree tree, Void none) {
        broken(2, tree, "a method reference");
        return null;
    }

    @Override
    public Void visitThrow(ThrowTree tree, Void none) {
        broken(6, tree, "throw");
        return null;
    }

    @Override
    public Void visitTry(TryTree tree, Void none) {
        broken(6, tree, "try");
        return null;
    }

    @Override
    public Void visitSynchronized(SynchronizedTree tree, Void none) {
        broken(6, tree, "synchronized");
        return null;
    }

    @Override
    public Void visitAssert(AssertTree tree, Void none) {
        broken(6, tree, "assert");
        return null;
    }

    @Override
    public Void visitWhileLoop(WhileLoopTree tree, Void none) {
        checkBound(tree, tree.getCondition());
        return super.visitWhileLoop(tree, none);
    }

    @Override
    public Void visitDoWhileLoop(DoWhileLoopTree tree, Void none) {
        checkBound(tree, tree.getCondition());
        return super.visitDoWhileLoop(tree, none);
    }

    @Override
    public Void visitForLoop(ForLoopTree tree, Void none) {
        checkBound(tree, tree.getCondition());
        return super.visitForLoop(tree, none);
    }

    /** A loop goes on only while a counter keeps to a bound; other conditions may join it by && alone. */
    private void checkBound(Tree loop, ExpressionTree condition) {
        if (condition == null || !hasBound(condition)) {
            broken(9, loop, "a loop whose end can't be seen");
        }
    }

    private static boolean hasBound(ExpressionTree condition) {
        if (condition instanceof ParenthesizedTree inside) {
            return hasBound(inside.getExpression());
        }
        if (condition instanceof BinaryTree two) {
            switch (two.getKind()) {
                case CONDITIONAL_AND:
                    return hasBound(two.getLeftOperand()) || hasBound(two.getRightOperand());
                case LESS_THAN: case LESS_THAN_EQUAL: case GREATER_THAN: case GREATER_THAN_EQUAL:
                    return true;
                default:
                    return false;
            }
        }
        return false;
    }

    private boolean leads(String from, String to, Set<String> met) {
        for (String next : calls.getOrDefault(from, Set.of())) {
            if (next.equals(to) || met.add(next) && leads(next, to, met)) {
                return true;
            }
        }
        return false;
    }

    private boolean isRecursion(String from, String to) {
        return from.equals(to) || leads(to, from, new HashSet<>());
    }

    private void checkCalls() {
        for (String method : calls.keySet()) {
            MethodTree tree = methods.get(method);
            if (isRecursion(method, method) && leads(method, method, new HashSet<>())) {
                boolean carries = tree.getParameters().stream().anyMatch(p -> p.getType().toString().equals("int"));
                if (!tree.getModifiers().getFlags().contains(Modifier.PRIVATE) || !carries) {
                    broken(8, tree, method + " calls itself and isn't private, or carries no depth");
                }
            }
        }
        Map<String, Integer> known = new HashMap<>();
        for (String method : calls.keySet()) {
            if (depth(method, known) > 8) {
                broken(11, methods.get(method), method + ": " + depth(method, known) + " calls deep");
            }
        }
        if (known.values().stream().mapToInt(d -> d).max().orElse(0) < 5) {
            broken(11, unit, "this test no longer sees how deep calls go");
        }
    }

    /** How many methods stand open at once from this one on; those that call one another count as one. */
    private int depth(String method, Map<String, Integer> known) {
        if (known.containsKey(method)) {
            return known.get(method);
        }
        int deepest = 0;
        for (String peer : calls.keySet()) {
            boolean same = peer.equals(method) || leads(method, peer, new HashSet<>()) && leads(peer, method, new HashSet<>());
            for (String next : same ? calls.get(peer) : Set.<String>of()) {
                if (!isRecursion(peer, next)) {
                    deepest = Math.max(deepest, depth(next, known));
                }
            }
        }
        known.put(method, deepest + 1);
        return deepest + 1;
    }
}

import com.sun.source.tree.BinaryTree;
import com.sun.source.tree.BlockTree;
import com.sun.source.tree.ClassTree;
import com.sun.source.tree.CompilationUnitTree;
import com.sun.source.tree.ExpressionTree;
import com.sun.source.tree.ForLoopTree;
import com.sun.source.tree.IdentifierTree;
import com.sun.source.tree.ImportTree;
import com.sun.source.tree.MemberSelectTree;
import com.sun.source.tree.MethodInvocationTree;
import com.sun.source.tree.MethodTree;
import com.sun.source.tree.NewClassTree;
import com.sun.source.tree.PrimitiveTypeTree;
import com.sun.source.tree.ThrowTree;
import com.sun.source.tree.Tree;
import com.sun.source.tree.VariableTree;
import com.sun.source.util.JavacTask;
import com.sun.source.util.TreePathScanner;
import com.sun.source.util.Trees;
import java.io.IOException;
import java.util.HashSet;
import java.util.List;
import java.util.Map;
import java.util.Set;
import javax.lang.model.element.Modifier;
import javax.tools.JavaCompiler;
import javax.tools.StandardJavaFileManager;
import javax.tools.ToolProvider;

/**
 * What the program's text shows of the rules of LANGUAGE.md (FaceTest holds rule 1). It is narrower than they
 * are: of what they allow it knows what the program uses, so a new need may widen it within the rules.
 */
public final class LanguageTest extends TreePathScanner<Void, Void> {
    private static final Set<String> IMPORTS = Set.of("java.util.ArrayList", "java.util.NoSuchElementException");
    private static final Set<String> LIBRARY_CALLS = Set.of("add", "get", "size", "clone", "min", "max");
    private static final Set<String> EXCEPTIONS = Set.of("IllegalStateException", "IllegalArgumentException",
            "UnsupportedOperationException", "NoSuchElementException");
    private static final Set<String> CONSTANTS = Set.of("int", "long", "boolean", "char", "String");
    private static final Map<Tree.Kind, Integer> RULES_AGAINST = Map.of(
            Tree.Kind.LAMBDA_EXPRESSION, 2, Tree.Kind.MEMBER_REFERENCE, 2,
            Tree.Kind.TRY, 6, Tree.Kind.SYNCHRONIZED, 6, Tree.Kind.ASSERT, 6,
            Tree.Kind.WHILE_LOOP, 9, Tree.Kind.DO_WHILE_LOOP, 9);
    private static final int MOST_CLASSES = 12;
    private static final int MOST_FIELDS = 20;
    private static final int MOST_PARAMETERS = 7;
    private static final int MOST_LINES = 60;

    private final Expect expect;
    private final CompilationUnitTree program;
    private final Trees trees;
    private final Set<String> ownClasses = new HashSet<>();
    private final Set<String> ownMethods = new HashSet<>();

    private LanguageTest(Expect expect, CompilationUnitTree program, Trees trees) {
        this.expect = expect;
        this.program = program;
        this.trees = trees;
    }

    public static void main(String[] args) throws IOException {
        Expect expect = new Expect();
        JavaCompiler compiler = ToolProvider.getSystemJavaCompiler();
        try (StandardJavaFileManager files = compiler.getStandardFileManager(null, null, null)) {
            JavacTask task = (JavacTask) compiler.getTask(null, files, null, List.of("--release", "17"), null,
                    files.getJavaFileObjects(Source.PROGRAM));
            for (CompilationUnitTree program : task.parse()) {
                new LanguageTest(expect, program, Trees.instance(task)).check();
            }
        }
        expect.end();
    }

    private void check() {
        expect.equal("no package", program.getPackage() == null, true);
        expect.equal("one class in the file", program.getTypeDecls().size(), 1);
        for (Tree type : program.getTypeDecls()) {
            addNames((ClassTree) type);
        }
        expect.equal("rule 11: not too many classes", ownClasses.size() <= MOST_CLASSES, true);
        scan(program, null);
    }

    private void addNames(ClassTree type) {
        ownClasses.add(type.getSimpleName().toString());
        for (Tree member : type.getMembers()) {
            if (member instanceof MethodTree method) {
                ownMethods.add(method.getName().toString());
            } else if (member instanceof ClassTree inside) {
                addNames(inside);
            }
        }
    }

    private void hold(int rule, Tree tree, boolean holds, String fault) {
        if (!holds) {
            expect.tell("rule " + rule + ", line " + lineOf(startOf(tree)) + ": " + fault);
        }
    }

    private long startOf(Tree tree) {
        return trees.getSourcePositions().getStartPosition(program, tree);
    }

    private long lineOf(long position) {
        return program.getLineMap().getLineNumber(position);
    }

    private Tree parent() {
        return getCurrentPath().getParentPath().getLeaf();
    }

    private static boolean isConstructor(MethodTree method) {
        return method.getReturnType() == null;
    }

    @Override
    public Void scan(Tree tree, Void none) {
        if (tree != null && RULES_AGAINST.containsKey(tree.getKind())) {
            hold(RULES_AGAINST.get(tree.getKind()), tree, false, tree.getKind().name());
        }
        return super.scan(tree, none);
    }

    @Override
    public Void visitImport(ImportTree tree, Void none) {
        hold(4, tree, !tree.isStatic() && IMPORTS.contains(tree.getQualifiedIdentifier().toString()), "an import");
        return super.visitImport(tree, none);
    }

    @Override
    public Void visitClass(ClassTree tree, Void none) {
        hold(2, tree, parent() instanceof CompilationUnitTree || parent() instanceof ClassTree, "a local class");
        long fields = tree.getMembers().stream()
                .filter(member -> member instanceof VariableTree field && !isStatic(field)).count();
        hold(11, tree, fields <= MOST_FIELDS, "too many fields");
        return super.visitClass(tree, none);
    }

    private static boolean isStatic(VariableTree field) {
        return field.getModifiers().getFlags().contains(Modifier.STATIC);
    }

    @Override
    public Void visitVariable(VariableTree tree, Void none) {
        if (isStatic(tree)) {
            hold(5, tree, tree.getModifiers().getFlags().contains(Modifier.FINAL), "static state");
            hold(5, tree, CONSTANTS.contains(tree.getType().toString()), "no constant");
        }
        return super.visitVariable(tree, none);
    }

    @Override
    public Void visitBlock(BlockTree tree, Void none) {
        hold(5, tree, !(parent() instanceof ClassTree), "an initialiser block");
        return super.visitBlock(tree, none);
    }

    @Override
    public Void visitMethod(MethodTree tree, Void none) {
        long first = lineOf(startOf(tree));
        long last = lineOf(trees.getSourcePositions().getEndPosition(program, tree));
        hold(11, tree, last - first < MOST_LINES, "a long method");
        hold(11, tree, tree.getParameters().size() <= MOST_PARAMETERS, "many parameters");
        hold(6, tree, !tree.getModifiers().getFlags().contains(Modifier.SYNCHRONIZED), "synchronized");
        return super.visitMethod(tree, none);
    }

    @Override
    public Void visitMethodInvocation(MethodInvocationTree tree, Void none) {
        ExpressionTree method = tree.getMethodSelect();
        String name = method instanceof MemberSelectTree select ? select.getIdentifier().toString() : method.toString();
        boolean known = ownMethods.contains(name) || LIBRARY_CALLS.contains(name) || name.equals("super");
        hold(4, tree, known, "a call of " + name);
        return super.visitMethodInvocation(tree, none);
    }

    @Override
    public Void visitNewClass(NewClassTree tree, Void none) {
        String name = tree.getIdentifier().toString().replaceAll("<.*>", "");
        boolean thrown = parent() instanceof ThrowTree && EXCEPTIONS.contains(name);
        hold(4, tree, thrown || ownClasses.contains(name) || name.equals("ArrayList"), "a new " + name);
        return super.visitNewClass(tree, none);
    }

    @Override
    public Void visitThrow(ThrowTree tree, Void none) {
        boolean written = tree.getExpression() instanceof NewClassTree thrown && thrown.getArguments().stream()
                .allMatch(argument -> argument.getKind() == Tree.Kind.STRING_LITERAL);
        hold(6, tree, written, "a throw without a written text");
        getCurrentPath().forEach(open ->
                hold(6, tree, !(open instanceof MethodTree method && isConstructor(method)), "a constructor throws"));
        return super.visitThrow(tree, none);
    }

    @Override
    public Void visitBinary(BinaryTree tree, Void none) {
        boolean text = tree.getLeftOperand().getKind() == Tree.Kind.STRING_LITERAL
                || tree.getRightOperand().getKind() == Tree.Kind.STRING_LITERAL;
        hold(10, tree, !text, "texts are joined or compared by a sign");
        return super.visitBinary(tree, none);
    }

    @Override
    public Void visitForLoop(ForLoopTree tree, Void none) {
        hold(9, tree, tree.getCondition() != null && !tree.getUpdate().isEmpty(), "a loop without a counter");
        return super.visitForLoop(tree, none);
    }

    @Override
    public Void visitPrimitiveType(PrimitiveTypeTree tree, Void none) {
        String name = tree.toString();
        hold(3, tree, !name.equals("double") && !name.equals("float"), name);
        return super.visitPrimitiveType(tree, none);
    }

    @Override
    public Void visitIdentifier(IdentifierTree tree, Void none) {
        hold(13, tree, !tree.getName().contentEquals("System"), "System");
        return super.visitIdentifier(tree, none);
    }
}

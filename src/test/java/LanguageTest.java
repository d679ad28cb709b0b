import com.sun.source.tree.AssertTree;
import com.sun.source.tree.BinaryTree;
import com.sun.source.tree.BlockTree;
import com.sun.source.tree.ClassTree;
import com.sun.source.tree.CompilationUnitTree;
import com.sun.source.tree.ExpressionTree;
import com.sun.source.tree.ForLoopTree;
import com.sun.source.tree.ImportTree;
import com.sun.source.tree.LambdaExpressionTree;
import com.sun.source.tree.MemberReferenceTree;
import com.sun.source.tree.MemberSelectTree;
import com.sun.source.tree.MethodInvocationTree;
import com.sun.source.tree.MethodTree;
import com.sun.source.tree.NewClassTree;
import com.sun.source.tree.SynchronizedTree;
import com.sun.source.tree.ThrowTree;
import com.sun.source.tree.Tree;
import com.sun.source.tree.TryTree;
import com.sun.source.tree.VariableTree;
import com.sun.source.tree.WhileLoopTree;
import com.sun.source.util.JavacTask;
import com.sun.source.util.SourcePositions;
import com.sun.source.util.TreeScanner;
import com.sun.source.util.Trees;
import java.io.IOException;
import java.nio.file.Path;
import java.util.List;
import java.util.Map;
import java.util.Set;
import java.util.TreeMap;
import java.util.TreeSet;
import javax.lang.model.element.Modifier;
import javax.tools.JavaCompiler;
import javax.tools.StandardJavaFileManager;
import javax.tools.ToolProvider;

/** The rules of LANGUAGE.md that can be seen from the program's text; FaceTest has rule 1. */
public final class LanguageTest extends TreeScanner<Void, Void> {
    private static final Set<String> IMPORTS = Set.of("java.util.ArrayList", "java.util.List", "java.util.Arrays",
            "java.util.Iterator", "java.util.NoSuchElementException");
    private static final Set<String> THROWN = Set.of("IllegalStateException", "IllegalArgumentException",
            "IndexOutOfBoundsException", "ArithmeticException", "UnsupportedOperationException",
            "NoSuchElementException", "RuntimeException");
    private static final Set<String> LIBRARY = Set.of("Math.max", "Math.min", "Math.abs", "Integer.bitCount",
            "Integer.compare", "System.arraycopy", "Arrays.fill", "Arrays.copyOf", "Arrays.copyOfRange");
    private static final Set<String> CONSTANT_TYPES = Set.of("int", "long", "boolean", "char", "String", "int[]",
            "long[]", "char[]", "byte[]");
    private static final Set<String> OBJECT_NAMES = Set.of("equals", "hashCode", "toString");

    private final CompilationUnitTree unit;
    private final SourcePositions places;
    private final Map<String, Set<String>> calls = new TreeMap<>();
    private int classes;
    private String caller = "";
    private boolean inConstructor;

    private LanguageTest(CompilationUnitTree unit, SourcePositions places) {
        this.unit = unit;
        this.places = places;
    }

    public static void main(String[] args) throws IOException {
        JavaCompiler compiler = ToolProvider.getSystemJavaCompiler();
        try (StandardJavaFileManager files = compiler.getStandardFileManager(null, null, null)) {
            JavacTask task = (JavacTask) compiler.getTask(null, files, null, List.of("--release", "17"), null,
                    files.getJavaFileObjects(Path.of("src/main/java/GroupStore.java")));
            for (CompilationUnitTree unit : task.parse()) {
                new LanguageTest(unit, Trees.instance(task).getSourcePositions()).look();
            }
        }
        Checks.finish();
    }

    private void look() {
        rule("one class and no package", null, unit.getPackage() == null && unit.getTypeDecls().size() == 1);
        scan(unit, null);
        rule("11: at most some twelve classes", null, classes <= 12);
        for (String name : calls.keySet()) {
            rule("8, 11: calls go at most eight deep, none is a recursion: " + name, null, depth(name, 0) <= 8);
        }
    }

    private void rule(String words, Tree tree, boolean kept) {
        String told = "rule " + words + (tree == null ? "" : ", line " + line(tree, false)) + ": ";
        Checks.same(told + true, told + kept);
    }

    private long line(Tree tree, boolean last) {
        long at = last ? places.getEndPosition(unit, tree) : places.getStartPosition(unit, tree);
        return unit.getLineMap().getLineNumber(at);
    }

    /** How many calls stand open at once in one of this name; a recursion goes on up to the bound. */
    private int depth(String name, int above) {
        if (above > 8) {
            return 1;
        }
        int deepest = 0;
        for (String called : calls.getOrDefault(name, Set.of())) {
            if (calls.containsKey(called)) {
                deepest = Math.max(deepest, depth(called, above + 1));
            }
        }
        return deepest + 1;
    }

    @Override
    public Void visitImport(ImportTree tree, Void none) {
        rule("4: the library", tree, !tree.isStatic() && IMPORTS.contains(tree.getQualifiedIdentifier().toString()));
        return null;
    }

    @Override
    public Void visitClass(ClassTree tree, Void none) {
        classes++;
        boolean isInside = classes > 1;
        Set<Modifier> said = tree.getModifiers().getFlags();
        rule("1, 2: classes inside are static and not seen from outside", tree, !isInside
                || said.contains(Modifier.STATIC) && !said.contains(Modifier.PUBLIC)
                && !said.contains(Modifier.PROTECTED));
        rule("2: no class inside a method", tree, caller.isEmpty());
        int fields = 0;
        for (Tree member : tree.getMembers()) {
            rule("5: no initialiser block", member, !(member instanceof BlockTree));
            if (member instanceof VariableTree) {
                fields += isConstant((VariableTree) member) ? 0 : 1;
            }
        }
        rule("11: some twenty fields", tree, fields <= 20);
        return super.visitClass(tree, none);
    }

    private boolean isConstant(VariableTree field) {
        Set<Modifier> said = field.getModifiers().getFlags();
        boolean isStatic = said.contains(Modifier.STATIC);
        rule("5: static fields are constants", field, !isStatic || said.contains(Modifier.FINAL)
                && field.getInitializer() != null && CONSTANT_TYPES.contains(field.getType().toString()));
        return isStatic;
    }

    @Override
    public Void visitMethod(MethodTree tree, Void none) {
        String name = tree.getName().toString();
        rule("6: no method of Object's names", tree, !OBJECT_NAMES.contains(name));
        rule("11: at most seven parameters", tree, tree.getParameters().size() <= 7);
        rule("11: methods stay short", tree, line(tree, true) - line(tree, false) < 60);
        caller = name;
        inConstructor = name.equals("<init>");
        calls.putIfAbsent(caller, new TreeSet<>());
        super.visitMethod(tree, none);
        caller = "";
        inConstructor = false;
        return null;
    }

    @Override
    public Void visitMethodInvocation(MethodInvocationTree tree, Void none) {
        ExpressionTree called = tree.getMethodSelect();
        String text = called.toString();
        calls.getOrDefault(caller, new TreeSet<>()).add(text.substring(text.lastIndexOf('.') + 1));
        boolean isLibrary = called instanceof MemberSelectTree && Character.isUpperCase(text.charAt(0));
        rule("4: the library: " + text, tree, !isLibrary || LIBRARY.contains(text));
        return super.visitMethodInvocation(tree, none);
    }

    @Override
    public Void visitThrow(ThrowTree tree, Void none) {
        boolean isMade = tree.getExpression() instanceof NewClassTree;
        rule("6: throw new E", tree, isMade);
        rule("6: no throw in a constructor", tree, !inConstructor);
        if (isMade) {
            NewClassTree made = (NewClassTree) tree.getExpression();
            List<? extends ExpressionTree> texts = made.getArguments();
            rule("6: one of these exceptions", tree, THROWN.contains(made.getIdentifier().toString()));
            rule("6: a written text or none", tree, texts.isEmpty() || texts.size() == 1 && isText(texts.get(0)));
        }
        return super.visitThrow(tree, none);
    }

    @Override
    public Void visitBinary(BinaryTree tree, Void none) {
        boolean joins = tree.getKind() == Tree.Kind.PLUS && (isText(tree.getLeftOperand())
                || isText(tree.getRightOperand()));
        rule("10: texts are not joined by +", tree, !joins);
        return super.visitBinary(tree, none);
    }

    private static boolean isText(ExpressionTree tree) {
        return tree.getKind() == Tree.Kind.STRING_LITERAL;
    }

    @Override
    public Void visitForLoop(ForLoopTree tree, Void none) {
        rule("9: a loop's end is seen", tree, tree.getCondition() != null);
        return super.visitForLoop(tree, none);
    }

    @Override
    public Void visitWhileLoop(WhileLoopTree tree, Void none) {
        rule("9: a loop's end is seen", tree, !tree.getCondition().toString().equals("(true)"));
        return super.visitWhileLoop(tree, none);
    }

    @Override
    public Void visitTry(TryTree tree, Void none) {
        rule("6: no finally, no resources", tree, tree.getFinallyBlock() == null && tree.getResources().isEmpty());
        return super.visitTry(tree, none);
    }

    @Override
    public Void visitLambdaExpression(LambdaExpressionTree tree, Void none) {
        rule("2: no lambda", tree, false);
        return null;
    }

    @Override
    public Void visitMemberReference(MemberReferenceTree tree, Void none) {
        rule("2: no method reference", tree, false);
        return null;
    }

    @Override
    public Void visitSynchronized(SynchronizedTree tree, Void none) {
        rule("6: no synchronized", tree, false);
        return null;
    }

    @Override
    public Void visitAssert(AssertTree tree, Void none) {
        rule("6: no assert", tree, false);
        return null;
    }
}

import com.sun.source.tree.AssertTree;
import com.sun.source.tree.BinaryTree;
import com.sun.source.tree.ClassTree;
import com.sun.source.tree.CompilationUnitTree;
import com.sun.source.tree.CompoundAssignmentTree;
import com.sun.source.tree.ExpressionTree;
import com.sun.source.tree.ImportTree;
import com.sun.source.tree.InstanceOfTree;
import com.sun.source.tree.LambdaExpressionTree;
import com.sun.source.tree.MemberReferenceTree;
import com.sun.source.tree.MemberSelectTree;
import com.sun.source.tree.MethodInvocationTree;
import com.sun.source.tree.MethodTree;
import com.sun.source.tree.NewClassTree;
import com.sun.source.tree.SynchronizedTree;
import com.sun.source.tree.ThrowTree;
import com.sun.source.tree.Tree;
import com.sun.source.tree.TryTree;
import com.sun.source.tree.TypeCastTree;
import com.sun.source.tree.VariableTree;
import com.sun.source.util.JavacTask;
import com.sun.source.util.TreePath;
import com.sun.source.util.TreePathScanner;
import com.sun.source.util.Trees;
import java.io.IOException;
import java.nio.file.Path;
import java.util.ArrayList;
import java.util.HashMap;
import java.util.HashSet;
import java.util.List;
import java.util.Map;
import java.util.Set;
import java.util.TreeSet;
import javax.lang.model.element.Element;
import javax.lang.model.element.ElementKind;
import javax.lang.model.element.Modifier;
import javax.lang.model.type.ArrayType;
import javax.lang.model.type.TypeKind;
import javax.lang.model.type.TypeMirror;
import javax.tools.JavaCompiler;
import javax.tools.StandardJavaFileManager;
import javax.tools.ToolProvider;

/**
 * The class keeps to those rules of ../shared/LANGUAGE.md that can be counted or listed; a report begins with the
 * rule's number. Where the class has no use for what a rule allows (try, casts of objects, recursion, lists), the test
 * allows none of it.
 */
final class LanguageTest extends TreePathScanner<Void, Void> {
    private static final Path FILE = Path.of("src/main/java/EstimateContest.java");
    private static final Set<String> EXCEPTIONS = Set.of("IllegalStateException", "IllegalArgumentException",
            "IndexOutOfBoundsException", "ArithmeticException", "UnsupportedOperationException",
            "NoSuchElementException", "RuntimeException");
    private static final Set<String> CALLS = Set.of("String.length", "String.charAt", "String.isEmpty",
            "String.equals", "String.indexOf", "String.substring", "String.toCharArray", "StringBuilder.append",
            "StringBuilder.charAt",
            "StringBuilder.setCharAt", "StringBuilder.setLength", "StringBuilder.deleteCharAt", "StringBuilder.reverse",
            "StringBuilder.length", "StringBuilder.toString", "Math.max", "Math.min", "Math.abs", "Long.bitCount",
            "Long.numberOfTrailingZeros", "System.arraycopy", "Arrays.fill", "Arrays.copyOf", "Arrays.copyOfRange");
    private static final Set<TypeKind> STATIC_KINDS = Set.of(TypeKind.INT, TypeKind.LONG, TypeKind.BOOLEAN,
            TypeKind.CHAR);

    private final Trees trees;
    private final CompilationUnitTree unit;
    /** A class stands here for the initialisers of its fields, which each of its constructors calls. */
    private final Map<Element, Set<Element>> calls = new HashMap<>();
    private final Set<String> publicNames = new TreeSet<>();
    private final Set<String> privateNames = new TreeSet<>();
    private Element caller;
    private int classes = 0;

    private LanguageTest(Trees trees, CompilationUnitTree unit) {
        this.trees = trees;
        this.unit = unit;
    }

    public static void main(String[] args) throws IOException {
        JavaCompiler compiler = ToolProvider.getSystemJavaCompiler();
        StandardJavaFileManager files = compiler.getStandardFileManager(null, null, null);
        JavacTask task = (JavacTask) compiler.getTask(null, files, null, List.of("-proc:none"), null,
                files.getJavaFileObjects(FILE));
        CompilationUnitTree unit = task.parse().iterator().next();
        task.analyze();
        LanguageTest test = new LanguageTest(Trees.instance(task), unit);
        test.scan(unit, null);
        test.checkTheWhole();
        Check.finish();
    }

    private void checkTheWhole() {
        Check.same("rule 1: a package", unit.getPackageName() == null, true);
        Check.same("rule 1: classes beside the one", unit.getTypeDecls().size(), 1);
        Set<String> both = new TreeSet<>(privateNames);
        both.retainAll(publicNames);
        Check.same("rule 1: private methods with a public one's name", both, Set.of());
        Check.same("rule 11: at most twelve classes, not " + classes, classes <= 12, true);
        for (Element method : calls.keySet()) {
            int depth = depth(method, new ArrayList<>());
            Check.same("rule 11: " + method + " goes at most eight deep, not " + depth, depth <= 8, true);
        }
    }

    /** A call of the library counts as one level, as nothing of it is looked at. */
    private int depth(Element method, List<Element> above) {
        if (above.contains(method)) {
            Check.same("rule 8: " + method + " calls itself", true, false);
            return 0;
        }
        above.add(method);
        int deepest = 0;
        for (Element called : calls.getOrDefault(method, Set.of())) {
            deepest = Math.max(deepest, depth(called, above));
        }
        above.remove(above.size() - 1);
        return deepest + 1;
    }

    private void none(String rule, Tree tree) {
        Check.same(rule + " in line " + line(tree), tree.toString(), "nothing of the kind");
    }

    private long line(Tree tree) {
        return unit.getLineMap().getLineNumber(trees.getSourcePositions().getStartPosition(unit, tree));
    }

    private long lastLine(Tree tree) {
        return unit.getLineMap().getLineNumber(trees.getSourcePositions().getEndPosition(unit, tree));
    }

    private Element elementOf(Tree tree) {
        return trees.getElement(TreePath.getPath(unit, tree));
    }

    private TypeMirror typeOf(Tree tree) {
        return trees.getTypeMirror(TreePath.getPath(unit, tree));
    }

    private static boolean isOwn(Element element) {
        Element outermost = element;
        while (outermost.getEnclosingElement() != null
                && outermost.getEnclosingElement().getKind() != ElementKind.PACKAGE) {
            outermost = outermost.getEnclosingElement();
        }
        return outermost.getSimpleName().contentEquals("EstimateContest");
    }

    @Override
    public Void visitImport(ImportTree tree, Void none) {
        String name = tree.getQualifiedIdentifier().toString();
        boolean isListed = Set.of("java.util.Arrays", "java.util.NoSuchElementException").contains(name);
        Check.same("rule 4: import of " + name, isListed && !tree.isStatic(), true);
        return super.visitImport(tree, none);
    }

    @Override
    public Void visitClass(ClassTree tree, Void none) {
        classes++;
        int fields = 0;
        for (Tree member : tree.getMembers()) {
            if (member instanceof VariableTree field && elementOf(field).getKind() == ElementKind.FIELD) {
                fields += checkField(tree, field);
            }
            if (member.getKind() == Tree.Kind.BLOCK) {
                none("rule 5: an initialiser block", member);
            }
        }
        Check.same("rule 11: at most twenty fields in " + tree.getSimpleName() + ", not " + fields, fields <= 20, true);
        return super.visitClass(tree, none);
    }

    private int checkField(ClassTree owner, VariableTree field) {
        Set<Modifier> modifiers = field.getModifiers().getFlags();
        if (!modifiers.contains(Modifier.STATIC)) {
            return 1;
        }
        TypeMirror type = typeOf(field);
        boolean isConstant = STATIC_KINDS.contains(type.getKind()) || type.toString().equals("java.lang.String");
        boolean isValues = type.getKind() == TypeKind.ARRAY
                && String.valueOf(field.getInitializer()).endsWith(".values()");
        Check.same("rule 5: static " + field.getName() + " of " + owner.getSimpleName(),
                modifiers.contains(Modifier.FINAL) && (isConstant || isValues), true);
        return 0;
    }

    @Override
    public Void visitMethod(MethodTree tree, Void none) {
        Element method = elementOf(tree);
        String name = tree.getName().toString();
        if (method.getModifiers().contains(Modifier.PUBLIC) && method.getKind() == ElementKind.METHOD) {
            publicNames.add(name);
        } else if (method.getModifiers().contains(Modifier.PRIVATE)) {
            privateNames.add(name);
        }
        long lines = lastLine(tree) - line(tree) + 1;
        Check.same("rule 11: at most sixty lines in " + name + ", not " + lines, lines <= 60, true);
        Check.same("rule 11: at most seven parameters of " + name, tree.getParameters().size() <= 7, true);
        Check.same("rule 6: " + name, Set.of("equals", "hashCode", "toString").contains(name), false);
        Element outer = caller;
        caller = method;
        calls.putIfAbsent(method, new HashSet<>());
        if (method.getKind() == ElementKind.CONSTRUCTOR) {
            addCall(method.getEnclosingElement());
        }
        super.visitMethod(tree, none);
        caller = outer;
        return null;
    }

    @Override
    public Void visitMethodInvocation(MethodInvocationTree tree, Void none) {
        Element called = elementOf(tree);
        addCall(called);
        boolean isValues = called.getSimpleName().contentEquals("values");
        Check.same("rules 4, 5: call of " + tree.getMethodSelect() + " in line " + line(tree),
                isOwn(called) ? !isValues || caller == null : isListed(tree, called), true);
        return super.visitMethodInvocation(tree, none);
    }

    /** The class is the one that the call names, as StringBuilder has some of its methods from a hidden class. */
    private boolean isListed(MethodInvocationTree tree, Element called) {
        return called.getKind() == ElementKind.CONSTRUCTOR
                || tree.getMethodSelect() instanceof MemberSelectTree select
                && CALLS.contains(simpleName(typeOf(select.getExpression())) + "." + select.getIdentifier());
    }

    private static String simpleName(TypeMirror type) {
        return type.toString().replaceAll(".*\\.", "");
    }

    private void addCall(Element called) {
        if (caller != null) {
            calls.computeIfAbsent(caller, method -> new HashSet<>()).add(called);
        }
    }

    @Override
    public Void visitNewClass(NewClassTree tree, Void none) {
        addCall(elementOf(tree));
        String name = tree.getIdentifier().toString();
        boolean isThrown = EXCEPTIONS.contains(name) && getCurrentPath().getParentPath().getLeaf() instanceof ThrowTree;
        Check.same("rule 4: new " + name + " in line " + line(tree),
                isOwn(elementOf(tree)) || name.equals("StringBuilder") || isThrown, true);
        return super.visitNewClass(tree, none);
    }

    @Override
    public Void visitThrow(ThrowTree tree, Void none) {
        String form = "throw new (" + String.join("|", EXCEPTIONS) + ")\\((\"[^\"]*\")?\\);";
        Check.same("rule 6: " + tree + " in line " + line(tree), tree.toString().matches(form), true);
        Check.same("rule 6: a throw in a constructor", caller.getKind() == ElementKind.METHOD, true);
        return super.visitThrow(tree, none);
    }

    @Override
    public Void visitVariable(VariableTree tree, Void none) {
        TypeMirror type = typeOf(tree);
        Check.same("rule 3: the type " + type + " in line " + line(tree), isAllowed(type), true);
        Element variable = elementOf(tree);
        boolean isMadeWithObject = variable.getKind() == ElementKind.FIELD
                && !variable.getModifiers().contains(Modifier.STATIC);
        caller = isMadeWithObject ? variable.getEnclosingElement() : caller;
        super.visitVariable(tree, none);
        caller = isMadeWithObject ? null : caller;
        return null;
    }

    private boolean isAllowed(TypeMirror type) {
        if (type.getKind() == TypeKind.ARRAY) {
            TypeMirror part = ((ArrayType) type).getComponentType();
            return part.getKind() == TypeKind.ARRAY
                    ? ((ArrayType) part).getComponentType().getKind().isPrimitive()
                    : isAllowed(part) && !part.toString().startsWith("java.");
        }
        return type.getKind().isPrimitive() || type.toString().startsWith("EstimateContest")
                || Set.of("java.lang.String", "java.lang.StringBuilder").contains(type.toString());
    }

    @Override
    public Void visitBinary(BinaryTree tree, Void none) {
        Check.same("rules 6, 10: " + tree + " in line " + line(tree),
                isText(tree.getLeftOperand()) || isText(tree.getRightOperand()), false);
        return super.visitBinary(tree, none);
    }

    private boolean isText(ExpressionTree tree) {
        return String.valueOf(typeOf(tree)).equals("java.lang.String");
    }

    @Override
    public Void visitCompoundAssignment(CompoundAssignmentTree tree, Void none) {
        Check.same("rule 10: " + tree + " in line " + line(tree), isText(tree.getVariable()), false);
        return super.visitCompoundAssignment(tree, none);
    }

    @Override
    public Void visitTypeCast(TypeCastTree tree, Void none) {
        Check.same("rule 6: " + tree + " in line " + line(tree), typeOf(tree).getKind().isPrimitive(), true);
        return super.visitTypeCast(tree, none);
    }

    @Override
    public Void visitLambdaExpression(LambdaExpressionTree tree, Void none) {
        none("rule 2: a lambda", tree);
        return null;
    }

    @Override
    public Void visitMemberReference(MemberReferenceTree tree, Void none) {
        none("rule 2: a method reference", tree);
        return null;
    }

    @Override
    public Void visitTry(TryTree tree, Void none) {
        none("rule 6: a try", tree);
        return null;
    }

    @Override
    public Void visitSynchronized(SynchronizedTree tree, Void none) {
        none("rule 6: synchronized", tree);
        return null;
    }

    @Override
    public Void visitAssert(AssertTree tree, Void none) {
        none("rule 6: an assert", tree);
        return null;
    }

    @Override
    public Void visitInstanceOf(InstanceOfTree tree, Void none) {
        none("rule 6: an instanceof", tree);
        return null;
    }
}

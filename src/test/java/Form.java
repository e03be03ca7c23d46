import com.sun.source.tree.AssertTree;
import com.sun.source.tree.BinaryTree;
import com.sun.source.tree.BlockTree;
import com.sun.source.tree.ClassTree;
import com.sun.source.tree.CompilationUnitTree;
import com.sun.source.tree.CompoundAssignmentTree;
import com.sun.source.tree.DoWhileLoopTree;
import com.sun.source.tree.EnhancedForLoopTree;
import com.sun.source.tree.ExpressionTree;
import com.sun.source.tree.ForLoopTree;
import com.sun.source.tree.LambdaExpressionTree;
import com.sun.source.tree.LiteralTree;
import com.sun.source.tree.MemberReferenceTree;
import com.sun.source.tree.MethodInvocationTree;
import com.sun.source.tree.MethodTree;
import com.sun.source.tree.NewArrayTree;
import com.sun.source.tree.NewClassTree;
import com.sun.source.tree.ParenthesizedTree;
import com.sun.source.tree.SynchronizedTree;
import com.sun.source.tree.ThrowTree;
import com.sun.source.tree.Tree;
import com.sun.source.tree.TryTree;
import com.sun.source.tree.VariableTree;
import com.sun.source.tree.WhileLoopTree;
import com.sun.source.util.JavacTask;
import com.sun.source.util.TreePath;
import com.sun.source.util.TreePathScanner;
import com.sun.source.util.Trees;
import java.io.IOException;
import java.net.URI;
import java.util.ArrayList;
import java.util.HashMap;
import java.util.HashSet;
import java.util.List;
import java.util.Map;
import java.util.Set;
import java.util.TreeSet;
import javax.lang.model.element.Element;
import javax.lang.model.element.ElementKind;
import javax.lang.model.element.ExecutableElement;
import javax.lang.model.element.Modifier;
import javax.lang.model.element.TypeElement;
import javax.lang.model.element.VariableElement;
import javax.lang.model.type.ArrayType;
import javax.lang.model.type.DeclaredType;
import javax.lang.model.type.TypeMirror;
import javax.tools.JavaCompiler;
import javax.tools.JavaFileObject;
import javax.tools.SimpleJavaFileObject;
import javax.tools.ToolProvider;

/**
 * Holds a source text against the rules of LANGUAGE.md, as far as they can be read off the text.
 * It is stricter than they are where this class needs less than they allow: no try, no recursion,
 * and no object or array made outside a constructor, but for the exceptions that are thrown.
 */
final class Form extends TreePathScanner<Void, Void> {
    private static final int MOST_PARAMETERS = 7;
    private static final int MOST_LINES = 60;
    private static final int MOST_CLASSES = 12;
    private static final int MOST_FIELDS = 20;
    private static final int DEEPEST_CALLS = 8;

    private static final Set<String> EXCEPTIONS = Set.of(
            "java.lang.IllegalStateException", "java.lang.IllegalArgumentException",
            "java.lang.IndexOutOfBoundsException", "java.lang.ArithmeticException",
            "java.lang.UnsupportedOperationException", "java.util.NoSuchElementException",
            "java.lang.RuntimeException");
    private static final Set<String> LIBRARY_TYPES = Set.of(
            "java.lang.String", "java.lang.StringBuilder", "java.lang.Integer",
            "java.util.ArrayList", "java.util.List");
    private static final Map<String, Set<String>> LIBRARY = Map.of(
            "java.lang.String", Set.of("length", "charAt", "isEmpty", "equals", "indexOf",
                    "substring", "toCharArray"),
            "java.lang.StringBuilder", Set.of("append", "charAt", "setCharAt", "setLength",
                    "deleteCharAt", "reverse", "length", "toString"),
            "java.util.ArrayList", Set.of("add", "get", "set", "remove", "size", "isEmpty", "clear"),
            "java.util.List", Set.of("add", "get", "set", "remove", "size", "isEmpty", "clear", "of"),
            "java.lang.System", Set.of("arraycopy"),
            "java.util.Arrays", Set.of("copyOf", "copyOfRange", "fill"));
    private static final Set<String> NUMBER_FUNCTIONS =
            Set.of("java.lang.Math", "java.lang.Integer", "java.lang.Long");

    private final Trees trees;
    private final CompilationUnitTree unit;
    private final Set<String> findings = new TreeSet<>();
    private final Set<String> faceNames = new HashSet<>();
    private final Set<String> hiddenNames = new TreeSet<>();
    private final Map<Element, Set<Element>> calls = new HashMap<>();
    private int classes = 0;

    private Form(Trees trees, CompilationUnitTree unit) {
        this.trees = trees;
        this.unit = unit;
    }

    /** "rule N: what", with the line where there is one, for each breach that is found. */
    static Set<String> breaches(String source) {
        JavaCompiler compiler = ToolProvider.getSystemJavaCompiler();
        JavacTask task = (JavacTask) compiler.getTask(null, null, null,
                List.of("--release", "17", "-proc:none"), null, List.of(file(source)));
        try {
            CompilationUnitTree unit = task.parse().iterator().next();
            task.analyze();
            Form form = new Form(Trees.instance(task), unit);
            form.scan(unit, null);
            form.lookAtWhole();
            return form.findings;
        } catch (IOException e) {
            throw new IllegalStateException(e);
        }
    }

    private static JavaFileObject file(String source) {
        URI uri = URI.create("string:///PageBanks.java");
        return new SimpleJavaFileObject(uri, JavaFileObject.Kind.SOURCE) {
            @Override
            public CharSequence getCharContent(boolean ignoreEncodingErrors) {
                return source;
            }
        };
    }

    private void found(int rule, String what) {
        findings.add("rule " + rule + ": " + what);
    }

    private void foundHere(int rule, String what) {
        found(rule, what + ", line " + lineOf(trees.getSourcePositions()
                .getStartPosition(unit, getCurrentPath().getLeaf())));
    }

    private long lineOf(long position) {
        return unit.getLineMap().getLineNumber(position);
    }

    private void lookAtWhole() {
        if (unit.getPackage() != null || unit.getTypeDecls().size() != 1) {
            found(1, "a package line, or not one class");
        }
        for (String name : hiddenNames) {
            if (faceNames.contains(name)) {
                found(1, "a method that is not of the face bears a name of it: " + name);
            }
        }
        if (classes > MOST_CLASSES) {
            found(11, "too many classes");
        }
        for (Element method : calls.keySet()) {
            lookAtCalls(method, new ArrayList<>());
        }
    }

    private void lookAtCalls(Element method, List<Element> open) {
        if (open.contains(method)) {
            found(8, "recursion through " + method.getSimpleName());
            return;
        }
        open.add(method);
        if (open.size() > DEEPEST_CALLS) {
            found(11, "calls go too deep from " + open.get(0).getSimpleName());
        } else {
            for (Element called : calls.getOrDefault(method, Set.of())) {
                lookAtCalls(called, open);
            }
        }
        open.remove(open.size() - 1);
    }

    @Override
    public Void visitClass(ClassTree tree, Void none) {
        classes++;
        Element it = trees.getElement(getCurrentPath());
        Set<Modifier> modifiers = it.getModifiers();
        boolean isOuter = it.getEnclosingElement().getKind() == ElementKind.PACKAGE;
        if (isOuter && !modifiers.equals(Set.of(Modifier.PUBLIC, Modifier.FINAL))) {
            foundHere(1, "the class is not public and final alone");
        }
        if (!isOuter && (!modifiers.contains(Modifier.STATIC) || isOpen(modifiers))) {
            foundHere(1, "a class inside is not static, or is public or protected");
        }
        int fields = 0;
        for (Tree member : tree.getMembers()) {
            fields += isOwnField(member) ? 1 : 0;
            if (member instanceof BlockTree) {
                foundHere(5, "an initialiser block");
            }
        }
        if (fields > MOST_FIELDS) {
            foundHere(11, "too many fields");
        }
        return super.visitClass(tree, none);
    }

    private static boolean isOpen(Set<Modifier> modifiers) {
        return modifiers.contains(Modifier.PUBLIC) || modifiers.contains(Modifier.PROTECTED);
    }

    private static boolean isOwnField(Tree member) {
        return member instanceof VariableTree field
                && !field.getModifiers().getFlags().contains(Modifier.STATIC);
    }

    @Override
    public Void visitMethod(MethodTree tree, Void none) {
        ExecutableElement it = (ExecutableElement) trees.getElement(getCurrentPath());
        lookAtVisibility(it);
        lookAtSize(tree);
        calls.computeIfAbsent(it, key -> new HashSet<>());
        String name = it.getSimpleName().toString();
        if (Set.of("equals", "hashCode", "toString", "finalize").contains(name)) {
            foundHere(6, "a method of Object is written anew");
        }
        if (it.getKind() == ElementKind.METHOD && isFace(it)) {
            faceNames.add(name);
        } else if (it.getKind() == ElementKind.METHOD) {
            hiddenNames.add(name);
        }
        return super.visitMethod(tree, none);
    }

    private static boolean isFace(Element member) {
        return isInOuter(member) && member.getModifiers().contains(Modifier.PUBLIC);
    }

    private static boolean isInOuter(Element member) {
        Element owner = member.getEnclosingElement();
        return owner.getEnclosingElement().getKind() == ElementKind.PACKAGE;
    }

    private void lookAtVisibility(Element member) {
        Set<Modifier> modifiers = member.getModifiers();
        boolean isFit = modifiers.contains(Modifier.PUBLIC) || modifiers.contains(Modifier.PRIVATE);
        if (isInOuter(member) && !isFit) {
            foundHere(1, "a member is protected or package-visible");
        }
    }

    private void lookAtSize(MethodTree tree) {
        long first = trees.getSourcePositions().getStartPosition(unit, tree);
        long last = trees.getSourcePositions().getEndPosition(unit, tree);
        if (last >= 0 && lineOf(last) - lineOf(first) >= MOST_LINES) {
            foundHere(11, "a long method");
        }
        if (tree.getParameters().size() > MOST_PARAMETERS) {
            foundHere(11, "too many parameters");
        }
    }

    @Override
    public Void visitVariable(VariableTree tree, Void none) {
        Element it = trees.getElement(getCurrentPath());
        if (!isAllowed(it.asType()) && it.getKind() != ElementKind.EXCEPTION_PARAMETER) {
            foundHere(3, "a variable of type " + it.asType());
        }
        if (it.getKind() == ElementKind.FIELD) {
            lookAtVisibility(it);
            if (it.getModifiers().contains(Modifier.STATIC)) {
                lookAtStatic(tree, (VariableElement) it);
            }
        }
        return super.visitVariable(tree, none);
    }

    private boolean isAllowed(TypeMirror type) {
        if (type instanceof ArrayType array) {
            return isAllowed(array.getComponentType());
        }
        return type.getKind().isPrimitive()
                || type instanceof DeclaredType declared && isOwnOrLibrary(declared.asElement());
    }

    private boolean isOwnOrLibrary(Element type) {
        return isOwn(type) || LIBRARY_TYPES.contains(type.toString());
    }

    private boolean isOwn(Element element) {
        TreePath path = trees.getPath(element);
        return path != null && path.getCompilationUnit() == unit;
    }

    private void lookAtStatic(VariableTree tree, VariableElement field) {
        boolean isConstant = field.getConstantValue() != null;
        boolean isWrittenRow = field.asType() instanceof ArrayType
                && tree.getInitializer() instanceof NewArrayTree row && row.getInitializers() != null;
        if (!field.getModifiers().contains(Modifier.FINAL) || !isConstant && !isWrittenRow) {
            foundHere(5, "static state");
        }
    }

    @Override
    public Void visitMethodInvocation(MethodInvocationTree tree, Void none) {
        ExecutableElement called = (ExecutableElement) trees.getElement(getCurrentPath());
        if (isOwn(called)) {
            calls.computeIfAbsent(caller(), key -> new HashSet<>()).add(called);
        } else if (called.getKind() != ElementKind.CONSTRUCTOR && !isInLibrary(called)) {
            foundHere(4, "the library's " + called.getEnclosingElement() + "." + called);
        }
        return super.visitMethodInvocation(tree, none);
    }

    private Element caller() {
        TreePath path = getCurrentPath();
        while (!(path.getLeaf() instanceof MethodTree) && !(path.getLeaf() instanceof ClassTree)) {
            path = path.getParentPath();
        }
        return trees.getElement(path);
    }

    private static boolean isInLibrary(ExecutableElement called) {
        String name = called.getSimpleName().toString();
        String owner = ((TypeElement) called.getEnclosingElement()).getQualifiedName().toString();
        if (!NUMBER_FUNCTIONS.contains(owner)) {
            return LIBRARY.getOrDefault(owner, Set.of()).contains(name);
        }
        boolean overWholeNumbers = called.getModifiers().contains(Modifier.STATIC);
        for (VariableElement parameter : called.getParameters()) {
            String type = parameter.asType().toString();
            overWholeNumbers = overWholeNumbers && (type.equals("int") || type.equals("long"));
        }
        return overWholeNumbers && !name.endsWith("Exact");
    }

    @Override
    public Void visitNewClass(NewClassTree tree, Void none) {
        Element made = ((DeclaredType) trees.getTypeMirror(getCurrentPath())).asElement();
        boolean isThrown = getCurrentPath().getParentPath().getLeaf() instanceof ThrowTree;
        if (!isThrown && !isOwnOrLibrary(made)) {
            foundHere(4, "an object of " + made);
        }
        if (!isThrown && caller().getKind() != ElementKind.CONSTRUCTOR) {
            foundHere(12, "an object made outside a constructor");
        }
        return super.visitNewClass(tree, none);
    }

    @Override
    public Void visitNewArray(NewArrayTree tree, Void none) {
        boolean isWritten = tree.getInitializers() != null;
        if (!isWritten && caller().getKind() != ElementKind.CONSTRUCTOR) {
            foundHere(12, "an array made outside a constructor");
        }
        return super.visitNewArray(tree, none);
    }

    @Override
    public Void visitThrow(ThrowTree tree, Void none) {
        if (caller().getKind() == ElementKind.CONSTRUCTOR) {
            foundHere(6, "a throw in a constructor");
        }
        if (!(tree.getExpression() instanceof NewClassTree made)) {
            foundHere(6, "a throw of an exception that is not new");
        } else {
            lookAtThrown(made);
        }
        return super.visitThrow(tree, none);
    }

    private void lookAtThrown(NewClassTree made) {
        TypeMirror type = trees.getTypeMirror(new TreePath(getCurrentPath(), made));
        boolean isPlain = made.getArguments().isEmpty()
                || made.getArguments().size() == 1 && made.getArguments().get(0) instanceof LiteralTree;
        if (!EXCEPTIONS.contains(type.toString()) || !isPlain) {
            foundHere(6, "a throw of " + type + " that the rule does not name");
        }
    }

    @Override
    public Void visitTry(TryTree tree, Void none) {
        foundHere(6, "a try");
        return super.visitTry(tree, none);
    }

    @Override
    public Void visitSynchronized(SynchronizedTree tree, Void none) {
        foundHere(6, "synchronized");
        return super.visitSynchronized(tree, none);
    }

    @Override
    public Void visitAssert(AssertTree tree, Void none) {
        foundHere(6, "assert");
        return super.visitAssert(tree, none);
    }

    @Override
    public Void visitLambdaExpression(LambdaExpressionTree tree, Void none) {
        foundHere(2, "a lambda");
        return null;
    }

    @Override
    public Void visitMemberReference(MemberReferenceTree tree, Void none) {
        foundHere(2, "a method reference");
        return null;
    }

    @Override
    public Void visitForLoop(ForLoopTree tree, Void none) {
        lookAtLoop(tree.getCondition());
        return super.visitForLoop(tree, none);
    }

    @Override
    public Void visitEnhancedForLoop(EnhancedForLoopTree tree, Void none) {
        TreePath over = new TreePath(getCurrentPath(), tree.getExpression());
        if (!(trees.getTypeMirror(over) instanceof ArrayType)) {
            foundHere(12, "a for over a list, which makes an iterator");
        }
        return super.visitEnhancedForLoop(tree, none);
    }

    @Override
    public Void visitWhileLoop(WhileLoopTree tree, Void none) {
        lookAtLoop(tree.getCondition());
        return super.visitWhileLoop(tree, none);
    }

    @Override
    public Void visitDoWhileLoop(DoWhileLoopTree tree, Void none) {
        lookAtLoop(tree.getCondition());
        return super.visitDoWhileLoop(tree, none);
    }

    /** An order against a bound is asked for; that it is ever reached, a reader must see. */
    private void lookAtLoop(ExpressionTree condition) {
        if (condition == null || !hasOrder(condition)) {
            foundHere(9, "a loop without a bound");
        }
    }

    private static boolean hasOrder(Tree condition) {
        if (condition instanceof ParenthesizedTree inside) {
            return hasOrder(inside.getExpression());
        }
        if (!(condition instanceof BinaryTree pair)) {
            return false;
        }
        return switch (pair.getKind()) {
            case LESS_THAN, LESS_THAN_EQUAL, GREATER_THAN, GREATER_THAN_EQUAL -> true;
            case CONDITIONAL_AND -> hasOrder(pair.getLeftOperand()) || hasOrder(pair.getRightOperand());
            default -> false;
        };
    }

    @Override
    public Void visitBinary(BinaryTree tree, Void none) {
        if (tree.getKind() == Tree.Kind.PLUS && isText()) {
            foundHere(10, "texts joined by +");
        }
        return super.visitBinary(tree, none);
    }

    @Override
    public Void visitCompoundAssignment(CompoundAssignmentTree tree, Void none) {
        if (isText()) {
            foundHere(10, "texts joined by +=");
        }
        return super.visitCompoundAssignment(tree, none);
    }

    private boolean isText() {
        return trees.getTypeMirror(getCurrentPath()).toString().equals("java.lang.String");
    }
}

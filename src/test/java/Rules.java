import java.util.HashMap;
import java.util.HashSet;
import java.util.List;
import java.util.Map;
import java.util.Set;
import java.util.TreeSet;
import javax.lang.model.element.Element;
import javax.lang.model.element.ElementKind;
import javax.lang.model.element.Modifier;
import javax.lang.model.type.TypeKind;
import javax.lang.model.type.TypeMirror;
import com.sun.source.tree.*;
import com.sun.source.util.JavacTask;
import com.sun.source.util.TreePath;
import com.sun.source.util.TreePathScanner;
import com.sun.source.util.Trees;

/**
 * Looks through a source for what is outside of ../shared/LANGUAGE.md. It is narrower than the rules where the
 * class needs less: no lists, no catches, no loop but a 'for' with a condition, recursion of a method with itself
 * alone. What a source does not show (rules 7 and 13 in part) the runs of the other tests ask.
 */
final class Rules extends TreePathScanner<Void, Void> {
    private static final int MOST_PARAMETERS = 7;
    private static final int MOST_LINES = 60;
    private static final int MOST_CLASSES = 12;
    private static final int MOST_FIELDS = 20;
    private static final int DEEPEST_CALLS = 8;

    private static final Set<String> LIBRARY = Set.of(
        "String.length()", "String.charAt(int)", "String.isEmpty()", "String.equals(java.lang.Object)",
        "String.indexOf(int)", "String.substring(int)", "String.substring(int,int)", "String.toCharArray()",
        "String.String(char[])", "StringBuilder.StringBuilder()", "StringBuilder.append(char)",
        "StringBuilder.append(java.lang.String)", "StringBuilder.append(int)", "StringBuilder.charAt(int)",
        "StringBuilder.setCharAt(int,char)", "StringBuilder.setLength(int)", "StringBuilder.deleteCharAt(int)",
        "StringBuilder.reverse()", "StringBuilder.length()", "StringBuilder.toString()",
        "Math.max(int,int)", "Math.min(int,int)", "Math.max(long,long)", "Math.min(long,long)",
        "Math.abs(int)", "Math.abs(long)", "Math.floorDiv(int,int)", "Math.floorMod(int,int)",
        "Integer.bitCount(int)", "Integer.compare(int,int)", "Long.bitCount(long)", "Long.compare(long,long)",
        "Long.numberOfTrailingZeros(long)", "System.arraycopy(java.lang.Object,int,java.lang.Object,int,int)");
    private static final Set<String> EXCEPTIONS = Set.of("IllegalStateException", "IllegalArgumentException",
        "IndexOutOfBoundsException", "ArithmeticException", "UnsupportedOperationException",
        "NoSuchElementException", "RuntimeException");
    private static final Set<String> CONSTANTS = Set.of("int", "long", "boolean", "char", "java.lang.String");
    private static final Set<String> CONSTANT_ROWS = Set.of("int[]", "long[]", "char[]", "byte[]");

    private final Trees trees;
    private final CompilationUnitTree unit;
    private final Set<String> found = new TreeSet<>();
    private final Map<Element, Set<Element>> calls = new HashMap<>();
    private int classes = 0;
    private int loops = 0;
    private Element method = null;

    Rules(JavacTask task, CompilationUnitTree unit) {
        this.trees = Trees.instance(task);
        this.unit = unit;
    }

    /** A line for each place, the rule's number ahead of it. */
    Set<String> broken() {
        askFor(1, unit.getPackageName() == null, unit, "a package line");
        askFor(4, unit.getImports().isEmpty(), unit, "an import");
        askFor(1, unit.getTypeDecls().size() == 1, unit, "more than one class");
        scan(unit, null);
        askFor(11, classes <= MOST_CLASSES, unit, "too many classes");
        for (Element each : calls.keySet()) {
            askFor(11, depth(each, new HashSet<>()) <= DEEPEST_CALLS, unit, each + " calls too deep");
        }
        return found;
    }

    private void askFor(int rule, boolean isKept, Tree where, String what) {
        if (!isKept) {
            long at = trees.getSourcePositions().getStartPosition(unit, where);
            found.add(rule + ": " + what + ", line " + (at < 0 ? 0 : unit.getLineMap().getLineNumber(at)));
        }
    }

    private Element elementOf(Tree tree) {
        return trees.getElement(TreePath.getPath(unit, tree));
    }

    private TypeMirror typeOf(Tree tree) {
        return trees.getTypeMirror(TreePath.getPath(unit, tree));
    }

    private static boolean isOwn(Element element) {
        Element outer = element;
        while (outer != null && outer.getEnclosingElement() != null
                && outer.getEnclosingElement().getKind() != ElementKind.PACKAGE) {
            outer = outer.getEnclosingElement();
        }
        return outer != null && outer.getSimpleName().contentEquals("Stepscout");
    }

    private int depth(Element from, Set<Element> open) {
        open.add(from);
        int deepest = 0;
        for (Element to : calls.getOrDefault(from, Set.of())) {
            if (open.contains(to)) {
                askFor(8, to == from, unit, from + " and " + to + " call one another");
            } else {
                deepest = Math.max(deepest, depth(to, open));
            }
        }
        open.remove(from);
        return deepest + 1;
    }

    // ---- classes and members

    @Override
    public Void visitClass(ClassTree tree, Void none) {
        classes++;
        Element element = elementOf(tree);
        Set<Modifier> modifiers = element.getModifiers();
        if (getCurrentPath().getParentPath().getLeaf() == unit) {
            askFor(1, modifiers.contains(Modifier.PUBLIC) && modifiers.contains(Modifier.FINAL), tree, "the class");
            askForNames(element, tree);
        } else {
            askFor(2, element.getEnclosingElement().getKind() == ElementKind.CLASS
                && modifiers.contains(Modifier.STATIC), tree, "a class that is not static");
            askFor(1, !modifiers.contains(Modifier.PUBLIC) && !modifiers.contains(Modifier.PROTECTED), tree,
                "a class that is shown");
        }
        int fields = 0;
        for (Element member : element.getEnclosedElements()) {
            boolean isField = member.getKind() == ElementKind.FIELD;
            fields += isField && !member.getModifiers().contains(Modifier.STATIC) ? 1 : 0;
        }
        askFor(11, fields <= MOST_FIELDS, tree, "too many fields");
        return super.visitClass(tree, none);
    }

    private void askForNames(Element face, Tree where) {
        Set<String> shown = new HashSet<>();
        for (Element member : face.getEnclosedElements()) {
            boolean isShown = member.getModifiers().contains(Modifier.PUBLIC);
            boolean isMethod = member.getKind() == ElementKind.METHOD;
            boolean isMaker = member.getKind() == ElementKind.CONSTRUCTOR;
            if (isShown && isMethod) {
                shown.add(member.getSimpleName().toString());
            }
            boolean isHidden = member.getModifiers().contains(Modifier.PRIVATE) || member.getKind().isClass()
                || member.getKind().isInterface() || member.getKind() == ElementKind.STATIC_INIT;
            askFor(1, isHidden || isShown && (isMethod || isMaker), where, member + " is shown");
        }
        for (Element member : face.getEnclosedElements()) {
            askFor(1, !member.getModifiers().contains(Modifier.PRIVATE) || member.getKind() != ElementKind.METHOD
                || !shown.contains(member.getSimpleName().toString()), where, member + " bears a public name");
        }
    }

    @Override
    public Void visitMethod(MethodTree tree, Void none) {
        Element outer = method;
        method = elementOf(tree);
        calls.putIfAbsent(method, new HashSet<>());
        askFor(11, tree.getParameters().size() <= MOST_PARAMETERS, tree, "too many parameters");
        long last = unit.getLineMap().getLineNumber(trees.getSourcePositions().getEndPosition(unit, tree) - 1);
        long first = unit.getLineMap().getLineNumber(trees.getSourcePositions().getStartPosition(unit, tree));
        askFor(11, first < 1 || last - first < MOST_LINES, tree, "a long method");
        super.visitMethod(tree, none);
        method = outer;
        return null;
    }

    @Override
    public Void visitVariable(VariableTree tree, Void none) {
        Element element = elementOf(tree);
        TypeMirror type = element.asType();
        // a thrown exception is kept in no variable here: rule 6 tells of them
        askFor(3, isFree(type) || EXCEPTIONS.contains(simple(type.toString())), tree, "a " + type);
        Set<Modifier> modifiers = element.getModifiers();
        if (element.getKind() == ElementKind.FIELD && modifiers.contains(Modifier.STATIC)) {
            boolean isRow = CONSTANT_ROWS.contains(type.toString()) && tree.getInitializer() instanceof NewArrayTree
                && ((NewArrayTree) tree.getInitializer()).getInitializers() != null;
            askFor(5, modifiers.contains(Modifier.FINAL) && (isRow || CONSTANTS.contains(type.toString())
                && (tree.getInitializer() != null)), tree, "static state");
        }
        return super.visitVariable(tree, none);
    }

    @Override
    public Void visitBlock(BlockTree tree, Void none) {
        askFor(5, !tree.isStatic(), tree, "a static block");
        return super.visitBlock(tree, none);
    }

    private static String simple(String name) {
        return name.substring(name.lastIndexOf('.') + 1);
    }

    private static boolean isNumbers(TypeMirror type) {
        return type.getKind().isPrimitive();
    }

    private boolean isFree(TypeMirror type) {
        if (type.getKind() == TypeKind.ARRAY) {
            TypeMirror part = ((javax.lang.model.type.ArrayType) type).getComponentType();
            if (part.getKind() == TypeKind.ARRAY) {
                return isNumbers(((javax.lang.model.type.ArrayType) part).getComponentType());
            }
            return isNumbers(part) || isOwnType(part);
        }
        String name = type.toString();
        return isNumbers(type) || name.equals("java.lang.String") || name.equals("java.lang.StringBuilder")
            || isOwnType(type);
    }

    private static boolean isOwnType(TypeMirror type) {
        return type.getKind() == TypeKind.DECLARED && isOwn(((javax.lang.model.type.DeclaredType) type).asElement());
    }

    // ---- what is called and made

    private void askForCall(Element called, Tree where) {
        if (called == null) {
            askFor(4, false, where, "an unknown call");
        } else if (isOwn(called)) {
            calls.computeIfAbsent(method, any -> new HashSet<>()).add(called);
        } else if (!called.getEnclosingElement().getSimpleName().contentEquals("Object")) {
            String name = called.getEnclosingElement().getSimpleName() + "." + called;
            askFor(4, LIBRARY.contains(name), where, name);
        } else {
            askFor(4, called.getKind() == ElementKind.CONSTRUCTOR, where, called.toString());
        }
    }

    @Override
    public Void visitMethodInvocation(MethodInvocationTree tree, Void none) {
        Element called = elementOf(tree);
        // each constructor opens with super(), which is no call of its own
        if (called == null || called.getKind() != ElementKind.CONSTRUCTOR) {
            askForCall(called, tree);
        }
        return super.visitMethodInvocation(tree, none);
    }

    @Override
    public Void visitNewClass(NewClassTree tree, Void none) {
        boolean isThrown = getCurrentPath().getParentPath().getLeaf().getKind() == Tree.Kind.THROW;
        askFor(12, loops == 0 || isThrown || method.getKind() == ElementKind.CONSTRUCTOR, tree, "made in a loop");
        if (!isThrown) {
            askForCall(elementOf(tree), tree);
        }
        return super.visitNewClass(tree, none);
    }

    @Override
    public Void visitNewArray(NewArrayTree tree, Void none) {
        askFor(12, loops == 0, tree, "an array made in a loop");
        askFor(3, isFree(typeOf(tree)), tree, "an array of " + typeOf(tree));
        return super.visitNewArray(tree, none);
    }

    @Override
    public Void visitLambdaExpression(LambdaExpressionTree tree, Void none) {
        askFor(2, false, tree, "a lambda");
        return null;
    }

    @Override
    public Void visitMemberReference(MemberReferenceTree tree, Void none) {
        askFor(2, false, tree, "a method reference");
        return null;
    }

    // ---- exceptions

    @Override
    public Void visitThrow(ThrowTree tree, Void none) {
        askFor(6, method.getKind() != ElementKind.CONSTRUCTOR, tree, "a throw in a constructor");
        boolean isWritten = false;
        if (tree.getExpression() instanceof NewClassTree) {
            NewClassTree made = (NewClassTree) tree.getExpression();
            List<? extends ExpressionTree> arguments = made.getArguments();
            isWritten = EXCEPTIONS.contains(simple(made.getIdentifier().toString())) && (arguments.isEmpty()
                || arguments.size() == 1 && arguments.get(0).getKind() == Tree.Kind.STRING_LITERAL);
        }
        askFor(6, isWritten, tree, "another throw");
        return super.visitThrow(tree, none);
    }

    @Override
    public Void visitTry(TryTree tree, Void none) {
        askFor(6, false, tree, "a try");
        return super.visitTry(tree, none);
    }

    @Override
    public Void visitAssert(AssertTree tree, Void none) {
        askFor(6, false, tree, "an assert");
        return super.visitAssert(tree, none);
    }

    @Override
    public Void visitSynchronized(SynchronizedTree tree, Void none) {
        askFor(6, false, tree, "synchronized");
        return super.visitSynchronized(tree, none);
    }

    // ---- loops and texts

    @Override
    public Void visitForLoop(ForLoopTree tree, Void none) {
        askFor(9, tree.getCondition() != null && !tree.getUpdate().isEmpty(), tree, "a loop without an end");
        loops++;
        super.visitForLoop(tree, none);
        loops--;
        return null;
    }

    @Override
    public Void visitWhileLoop(WhileLoopTree tree, Void none) {
        askFor(9, false, tree, "a while");
        return super.visitWhileLoop(tree, none);
    }

    @Override
    public Void visitDoWhileLoop(DoWhileLoopTree tree, Void none) {
        askFor(9, false, tree, "a do");
        return super.visitDoWhileLoop(tree, none);
    }

    @Override
    public Void visitBinary(BinaryTree tree, Void none) {
        askFor(10, !typeOf(tree).toString().equals("java.lang.String"), tree, "texts joined by +");
        return super.visitBinary(tree, none);
    }

    @Override
    public Void visitCompoundAssignment(CompoundAssignmentTree tree, Void none) {
        askFor(10, !typeOf(tree).toString().equals("java.lang.String"), tree, "texts joined by +=");
        return super.visitCompoundAssignment(tree, none);
    }

    @Override
    public Void visitLiteral(LiteralTree tree, Void none) {
        String text = String.valueOf(tree.getValue());
        boolean isText = tree.getValue() instanceof String || tree.getValue() instanceof Character;
        for (int i = 0; isText && i < text.length(); i++) {
            askFor(4, text.charAt(i) >= 1 && text.charAt(i) <= 127, tree, "a sign beyond 127");
        }
        return super.visitLiteral(tree, none);
    }
}

import com.sun.source.tree.BinaryTree;
import com.sun.source.tree.BlockTree;
import com.sun.source.tree.ClassTree;
import com.sun.source.tree.CompilationUnitTree;
import com.sun.source.tree.DoWhileLoopTree;
import com.sun.source.tree.EnhancedForLoopTree;
import com.sun.source.tree.ExpressionTree;
import com.sun.source.tree.ForLoopTree;
import com.sun.source.tree.ImportTree;
import com.sun.source.tree.LiteralTree;
import com.sun.source.tree.MemberSelectTree;
import com.sun.source.tree.MethodInvocationTree;
import com.sun.source.tree.MethodTree;
import com.sun.source.tree.NewArrayTree;
import com.sun.source.tree.NewClassTree;
import com.sun.source.tree.ParenthesizedTree;
import com.sun.source.tree.Tree;
import com.sun.source.tree.VariableTree;
import com.sun.source.tree.WhileLoopTree;
import com.sun.source.util.JavacTask;
import com.sun.source.util.TreePath;
import com.sun.source.util.TreePathScanner;
import com.sun.source.util.Trees;
import java.io.IOException;
import java.net.URI;
import java.util.ArrayList;
import java.util.HashSet;
import java.util.LinkedHashMap;
import java.util.LinkedHashSet;
import java.util.List;
import java.util.Map;
import java.util.Set;
import javax.lang.model.element.Element;
import javax.lang.model.element.ElementKind;
import javax.lang.model.element.ExecutableElement;
import javax.lang.model.element.Modifier;
import javax.lang.model.element.TypeElement;
import javax.lang.model.type.TypeMirror;
import javax.tools.JavaCompiler;
import javax.tools.JavaFileObject;
import javax.tools.SimpleJavaFileObject;
import javax.tools.ToolProvider;

/**
 * The rules of ../shared/LANGUAGE.md, held against a source as the compiler reads it. It is stricter than they are
 * where the class does not need what they allow: no recursion but a private static method's own, no library but what
 * stands in LIBRARY, no loop without a condition, no object made but in constructors, fields and MAKERS.
 */
final class RuleBook extends TreePathScanner<Void, Void> {
    private static final Set<String> LIBRARY = Set.of("java.lang.String.length", "java.lang.String.charAt",
            "java.lang.System.arraycopy", "java.util.Arrays.fill", "java.lang.Math.max", "java.lang.Math.min",
            "java.lang.Math.abs", "java.lang.Integer.bitCount", "java.lang.Long.bitCount");
    private static final Set<String> TYPES = Set.of("int", "long", "byte", "boolean", "void", "int[]", "byte[]", "boolean[]",
            "char", "java.lang.String");
    private static final Set<String> MAKERS = Set.of("image");
    private static final Set<Tree.Kind> BANNED = Set.of(Tree.Kind.THROW, Tree.Kind.TRY, Tree.Kind.CATCH, Tree.Kind.SYNCHRONIZED,
            Tree.Kind.ASSERT, Tree.Kind.LAMBDA_EXPRESSION, Tree.Kind.MEMBER_REFERENCE, Tree.Kind.INSTANCE_OF, Tree.Kind.TYPE_CAST,
            Tree.Kind.SWITCH_EXPRESSION, Tree.Kind.ANNOTATION, Tree.Kind.ENUM, Tree.Kind.INTERFACE, Tree.Kind.RECORD,
            Tree.Kind.DOUBLE_LITERAL, Tree.Kind.FLOAT_LITERAL);
    private static final int LINES_MOST = 60;
    private static final int PARAMETERS_MOST = 7;
    private static final int CLASSES_MOST = 12;
    private static final int FIELDS_MOST = 20;
    private static final int CALLS_DEEP = 8;

    private final List<String> broken = new ArrayList<>();
    private final Trees trees;
    private final CompilationUnitTree unit;
    /** Who calls whom, as the compiler names them. */
    private final Map<ExecutableElement, Set<ExecutableElement>> calls = new LinkedHashMap<>();
    private int classes = 0;

    private RuleBook(Trees trees, CompilationUnitTree unit) {
        this.trees = trees;
        this.unit = unit;
    }

    /** Where a source breaks a rule: the rule's number, the line, what stands there. */
    static List<String> broken(String source) throws IOException {
        JavaFileObject file = new SimpleJavaFileObject(URI.create("string:///BladePairs.java"), JavaFileObject.Kind.SOURCE) {
            @Override
            public CharSequence getCharContent(boolean ignored) {
                return source;
            }
        };
        JavaCompiler compiler = ToolProvider.getSystemJavaCompiler();
        JavacTask task = (JavacTask) compiler.getTask(null, null, null, List.of("-proc:none"), null, List.of(file));
        CompilationUnitTree unit = task.parse().iterator().next();
        task.analyze();
        RuleBook book = new RuleBook(Trees.instance(task), unit);
        book.scan(unit, null);
        book.weighCalls();
        if (book.classes > CLASSES_MOST) {
            book.broken.add("11: " + book.classes + " classes");
        }
        return book.broken;
    }

    private void note(int rule, Tree tree, String what) {
        long at = trees.getSourcePositions().getStartPosition(unit, tree);
        long line = at < 0 ? 0 : unit.getLineMap().getLineNumber(at);
        broken.add(rule + ", line " + line + ": " + what);
    }

    @Override
    public Void scan(Tree tree, Void nothing) {
        if (tree != null && BANNED.contains(tree.getKind()) && !isNumberCast(tree)) {
            note(6, tree, "a " + tree.getKind());
        }
        return super.scan(tree, nothing);
    }

    /** Casts between numbers can't fail. */
    private static boolean isNumberCast(Tree tree) {
        return tree.getKind() == Tree.Kind.TYPE_CAST && Set.of("(byte)", "(long)", "(int)", "(char)").stream()
                .anyMatch(cast -> tree.toString().startsWith(cast));
    }

    @Override
    public Void visitImport(ImportTree tree, Void nothing) {
        String name = tree.getQualifiedIdentifier().toString();
        if (tree.isStatic() || !Set.of("java.util.Arrays", "java.util.ArrayList", "java.util.List").contains(name)) {
            note(4, tree, "import of " + name);
        }
        return super.visitImport(tree, nothing);
    }

    @Override
    public Void visitClass(ClassTree tree, Void nothing) {
        classes++;
        Element own = trees.getElement(getCurrentPath());
        boolean outer = own == null || own.getEnclosingElement().getKind() == ElementKind.PACKAGE;
        Set<Modifier> modifiers = tree.getModifiers().getFlags();
        if (outer && !modifiers.equals(Set.of(Modifier.PUBLIC, Modifier.FINAL))) {
            note(1, tree, "the class is " + modifiers);
        }
        if (!outer && (!modifiers.contains(Modifier.STATIC) || modifiers.contains(Modifier.PUBLIC)
                || modifiers.contains(Modifier.PROTECTED) || own.getEnclosingElement().getKind() != ElementKind.CLASS)) {
            note(2, tree, "the class inside, " + tree.getSimpleName() + ", is " + modifiers);
        }
        if (tree.getExtendsClause() != null || !tree.getImplementsClause().isEmpty() || !tree.getTypeParameters().isEmpty()) {
            note(2, tree, tree.getSimpleName() + " is of a kind");
        }
        int fields = 0;
        for (Tree member : tree.getMembers()) {
            if (member instanceof BlockTree) {
                note(5, member, "an initialiser block");
            }
            if (member instanceof VariableTree field) {
                fields += field.getModifiers().getFlags().contains(Modifier.STATIC) ? 0 : 1;
                lookAtField(field, outer);
            }
        }
        if (fields > FIELDS_MOST) {
            note(11, tree, fields + " fields");
        }
        return super.visitClass(tree, nothing);
    }

    private void lookAtField(VariableTree field, boolean outer) {
        Set<Modifier> modifiers = field.getModifiers().getFlags();
        boolean fixed = modifiers.contains(Modifier.STATIC) && modifiers.contains(Modifier.FINAL);
        if (modifiers.contains(Modifier.STATIC) && !fixed) {
            note(5, field, "static state, " + field.getName());
        }
        boolean written = field.getInitializer() instanceof NewArrayTree array && array.getInitializers() != null;
        if (fixed && field.getType().toString().endsWith("]") && !written) {
            note(5, field, "an array that is not written out, " + field.getName());
        }
        boolean face = fixed && modifiers.contains(Modifier.PUBLIC) && field.getName().contentEquals("NONE");
        if (outer && !face && !modifiers.contains(Modifier.PRIVATE)) {
            note(1, field, "a field to be seen, " + field.getName());
        }
    }

    @Override
    public Void visitMethod(MethodTree tree, Void nothing) {
        TypeElement owner = (TypeElement) trees.getElement(getCurrentPath()).getEnclosingElement();
        Set<Modifier> modifiers = tree.getModifiers().getFlags();
        boolean outer = owner.getEnclosingElement().getKind() == ElementKind.PACKAGE;
        if (outer && !modifiers.contains(Modifier.PUBLIC) && !modifiers.contains(Modifier.PRIVATE)) {
            note(1, tree, tree.getName() + " is to be seen in the package");
        }
        if (Set.of("equals", "hashCode", "toString").contains(tree.getName().toString())) {
            note(6, tree, tree.getName() + " of its own");
        }
        if (tree.getParameters().size() > PARAMETERS_MOST) {
            note(11, tree, tree.getParameters().size() + " parameters");
        }
        if (tree.getBody() != null) {
            long from = unit.getLineMap().getLineNumber(trees.getSourcePositions().getStartPosition(unit, tree));
            long to = unit.getLineMap().getLineNumber(trees.getSourcePositions().getEndPosition(unit, tree));
            if (to - from > LINES_MOST) {
                note(11, tree, tree.getName() + " has " + (to - from) + " lines");
            }
        }
        return super.visitMethod(tree, nothing);
    }

    @Override
    public Void visitVariable(VariableTree tree, Void nothing) {
        TypeMirror type = trees.getTypeMirror(new TreePath(getCurrentPath(), tree.getType()));
        String name = String.valueOf(type);
        if (!TYPES.contains(name) && !name.startsWith("BladePairs")) {
            note(3, tree, tree.getName() + " is of type " + name);
        }
        return super.visitVariable(tree, nothing);
    }

    @Override
    public Void visitMethodInvocation(MethodInvocationTree tree, Void nothing) {
        Element called = trees.getElement(getCurrentPath());
        ExecutableElement caller = callerOf(getCurrentPath());
        if (called instanceof ExecutableElement method && caller != null) {
            calls.computeIfAbsent(caller, c -> new LinkedHashSet<>()).add(method);
        }
        String owner = called == null ? "?" : called.getEnclosingElement().toString();
        boolean library = !owner.startsWith("BladePairs");
        boolean plainConstructor = owner.equals("java.lang.Object") && called.getKind() == ElementKind.CONSTRUCTOR;
        if (library && !plainConstructor && !LIBRARY.contains(owner + "." + called.getSimpleName())) {
            note(4, tree, "a call of " + owner + "." + called);
        }
        return super.visitMethodInvocation(tree, nothing);
    }

    private ExecutableElement callerOf(TreePath path) {
        for (TreePath at = path; at != null; at = at.getParentPath()) {
            if (at.getLeaf() instanceof MethodTree) {
                return (ExecutableElement) trees.getElement(at);
            }
        }
        return null;
    }

    @Override
    public Void visitMemberSelect(MemberSelectTree tree, Void nothing) {
        Element named = trees.getElement(getCurrentPath());
        boolean field = named != null && named.getKind() == ElementKind.FIELD && named.getEnclosingElement() != null;
        String owner = field ? named.getEnclosingElement().toString() : "BladePairs";
        boolean arrayLength = tree.getIdentifier().contentEquals("length");
        if (!owner.startsWith("BladePairs") && !arrayLength) {
            note(4, tree, "the library's " + tree);
        }
        return super.visitMemberSelect(tree, nothing);
    }

    @Override
    public Void visitNewClass(NewClassTree tree, Void nothing) {
        if (tree.getClassBody() != null) {
            note(2, tree, "an anonymous class");
        }
        lookAtMaking(tree);
        return super.visitNewClass(tree, nothing);
    }

    @Override
    public Void visitNewArray(NewArrayTree tree, Void nothing) {
        lookAtMaking(tree);
        return super.visitNewArray(tree, nothing);
    }

    private void lookAtMaking(Tree tree) {
        ExecutableElement maker = callerOf(getCurrentPath());
        boolean once = maker == null || maker.getKind() == ElementKind.CONSTRUCTOR;
        if (!once && !MAKERS.contains(maker.getSimpleName().toString())) {
            note(12, tree, "made in " + maker.getSimpleName() + ": " + tree);
        }
    }

    @Override
    public Void visitBinary(BinaryTree tree, Void nothing) {
        boolean texts = isText(tree.getLeftOperand()) || isText(tree.getRightOperand());
        boolean nulls = tree.getLeftOperand().getKind() == Tree.Kind.NULL_LITERAL
                || tree.getRightOperand().getKind() == Tree.Kind.NULL_LITERAL;
        if (texts && !nulls) {
            note(10, tree, "texts joined or held by their object: " + tree);
        }
        return super.visitBinary(tree, nothing);
    }

    private boolean isText(ExpressionTree tree) {
        TypeMirror type = trees.getTypeMirror(new TreePath(getCurrentPath(), tree));
        return String.valueOf(type).contains("String");
    }

    @Override
    public Void visitLiteral(LiteralTree tree, Void nothing) {
        if (tree.getValue() instanceof String text && !text.chars().allMatch(sign -> sign >= 1 && sign <= 127)) {
            note(4, tree, "a sign beyond 127 in " + text);
        }
        return super.visitLiteral(tree, nothing);
    }

    @Override
    public Void visitForLoop(ForLoopTree tree, Void nothing) {
        lookAtLoop(tree, tree.getCondition());
        return super.visitForLoop(tree, nothing);
    }

    @Override
    public Void visitWhileLoop(WhileLoopTree tree, Void nothing) {
        lookAtLoop(tree, tree.getCondition());
        return super.visitWhileLoop(tree, nothing);
    }

    @Override
    public Void visitDoWhileLoop(DoWhileLoopTree tree, Void nothing) {
        lookAtLoop(tree, tree.getCondition());
        return super.visitDoWhileLoop(tree, nothing);
    }

    /** The list's iterator would be an object of each run through it. */
    @Override
    public Void visitEnhancedForLoop(EnhancedForLoopTree tree, Void nothing) {
        note(12, tree, "a loop over " + tree.getExpression());
        return super.visitEnhancedForLoop(tree, nothing);
    }

    /** A bound is a comparison that must hold for the loop to go on. */
    private void lookAtLoop(Tree loop, ExpressionTree condition) {
        if (condition == null || !hasBound(condition)) {
            note(9, loop, "no bound in " + condition);
        }
    }

    private static boolean hasBound(Tree condition) {
        if (condition instanceof ParenthesizedTree inner) {
            return hasBound(inner.getExpression());
        }
        if (!(condition instanceof BinaryTree both)) {
            return false;
        }
        switch (both.getKind()) {
            case CONDITIONAL_AND:
                return hasBound(both.getLeftOperand()) || hasBound(both.getRightOperand());
            case LESS_THAN:
            case LESS_THAN_EQUAL:
            case GREATER_THAN:
            case GREATER_THAN_EQUAL:
                return true;
            default:
                return false;
        }
    }

    /** Rule 8: no recursion but a private static method's own. Rule 11: at most eight deep. */
    private void weighCalls() {
        for (ExecutableElement method : calls.keySet()) {
            if (calls.get(method).contains(method) && !method.getModifiers().containsAll(Set.of(Modifier.PRIVATE, Modifier.STATIC))) {
                broken.add("8: " + method + " calls itself");
            }
            if (method.getModifiers().contains(Modifier.PUBLIC)) {
                int deep = depth(method, new HashSet<>());
                if (deep > CALLS_DEEP) {
                    broken.add("11: " + method + " calls " + deep + " deep");
                }
            }
        }
        nameClashes();
    }

    private int depth(ExecutableElement method, Set<ExecutableElement> open) {
        if (!open.add(method)) {
            broken.add("8: " + method + " calls itself by way of others");
            return 0;
        }
        int deepest = 0;
        for (ExecutableElement called : calls.getOrDefault(method, Set.of())) {
            if (!called.equals(method)) {
                deepest = Math.max(deepest, depth(called, open));
            }
        }
        open.remove(method);
        return 1 + deepest;
    }

    /** Rule 1: no private method bears the name of a public one. */
    private void nameClashes() {
        Set<String> seen = new HashSet<>();
        Set<String> hidden = new HashSet<>();
        new TreePathScanner<Void, Void>() {
            @Override
            public Void visitMethod(MethodTree tree, Void nothing) {
                boolean open = tree.getModifiers().getFlags().contains(Modifier.PUBLIC);
                (open ? seen : hidden).add(tree.getName().toString());
                return super.visitMethod(tree, nothing);
            }
        }.scan(unit, null);
        seen.remove("<init>");
        hidden.retainAll(seen);
        if (!hidden.isEmpty()) {
            broken.add("1: private and public methods are called " + hidden);
        }
    }
}

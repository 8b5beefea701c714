import com.sun.source.tree.AssertTree;
import com.sun.source.tree.ArrayAccessTree;
import com.sun.source.tree.AssignmentTree;
import com.sun.source.tree.BinaryTree;
import com.sun.source.tree.ClassTree;
import com.sun.source.tree.CompilationUnitTree;
import com.sun.source.tree.CompoundAssignmentTree;
import com.sun.source.tree.ExpressionTree;
import com.sun.source.tree.ImportTree;
import com.sun.source.tree.LambdaExpressionTree;
import com.sun.source.tree.LiteralTree;
import com.sun.source.tree.MemberReferenceTree;
import com.sun.source.tree.MethodInvocationTree;
import com.sun.source.tree.MethodTree;
import com.sun.source.tree.NewArrayTree;
import com.sun.source.tree.NewClassTree;
import com.sun.source.tree.SynchronizedTree;
import com.sun.source.tree.ThrowTree;
import com.sun.source.tree.Tree;
import com.sun.source.tree.TryTree;
import com.sun.source.tree.TypeCastTree;
import com.sun.source.tree.UnaryTree;
import com.sun.source.tree.VariableTree;
import com.sun.source.util.JavacTask;
import com.sun.source.util.TreePath;
import com.sun.source.util.TreePathScanner;
import com.sun.source.util.Trees;
import java.io.IOException;
import java.nio.file.Files;
import java.nio.file.Path;
import java.util.ArrayList;
import java.util.EnumSet;
import java.util.HashMap;
import java.util.HashSet;
import java.util.LinkedHashSet;
import java.util.List;
import java.util.Map;
import java.util.Set;
import java.util.regex.Pattern;
import javax.lang.model.element.Element;
import javax.lang.model.element.ElementKind;
import javax.lang.model.element.Modifier;
import javax.lang.model.type.ArrayType;
import javax.lang.model.type.TypeKind;
import javax.lang.model.type.TypeMirror;
import javax.tools.JavaCompiler;
import javax.tools.StandardJavaFileManager;
import javax.tools.ToolProvider;

/**
 * The rules of LANGUAGE.md that can be told from MemoryDesk.java and its syntax tree. It allows the
 * part of the language that the class has needed so far; what LANGUAGE.md allows beyond that (try,
 * recursion, lists) is to be let in here when the class first needs it.
 */
public final class LanguageTest {
    private static final int CLASSES = 12;
    private static final int FIELDS = 20;
    private static final int PARAMETERS = 7;
    private static final int LINES = 60;
    private static final int DEPTH = 8;

    private static final Set<String> LIBRARY = Set.of("Math.max", "Math.min", "Integer.bitCount",
            "System.arraycopy");
    private static final Set<String> EXCEPTIONS = Set.of("IllegalStateException",
            "IllegalArgumentException", "IndexOutOfBoundsException");
    private static final Set<String> CONSTANTS = Set.of("int", "long", "boolean", "char", "java.lang.String",
            "int[]", "long[]", "char[]", "byte[]");
    private static final Set<TypeKind> NUMBERS = EnumSet.of(TypeKind.INT, TypeKind.LONG, TypeKind.SHORT,
            TypeKind.BYTE, TypeKind.CHAR, TypeKind.BOOLEAN, TypeKind.DOUBLE, TypeKind.FLOAT);
    private static final Set<TypeKind> FRACTIONS = EnumSet.of(TypeKind.DOUBLE, TypeKind.FLOAT);
    private static final Set<Tree.Kind> FRACTION_OPERATORS = EnumSet.of(Tree.Kind.PLUS, Tree.Kind.MINUS,
            Tree.Kind.MULTIPLY, Tree.Kind.DIVIDE, Tree.Kind.LESS_THAN, Tree.Kind.GREATER_THAN,
            Tree.Kind.LESS_THAN_EQUAL, Tree.Kind.GREATER_THAN_EQUAL, Tree.Kind.EQUAL_TO,
            Tree.Kind.NOT_EQUAL_TO);
    private static final Set<Tree.Kind> STEPS = EnumSet.of(Tree.Kind.POSTFIX_INCREMENT,
            Tree.Kind.PREFIX_INCREMENT, Tree.Kind.POSTFIX_DECREMENT, Tree.Kind.PREFIX_DECREMENT);

    /** Texts that no syntax tree is needed to find: a package, classes off the list, signs beyond 127. */
    private static final String[] FORBIDDEN = {
        "\\bpackage\\b", "\\bFloat\\b", "\\bDouble\\b", "\\bLong\\b", "\\bCharacter\\b", "[^\\x01-\\x7f]",
    };

    private LanguageTest() {
    }

    public static void main(String[] args) throws IOException {
        text(Files.readString(Path.of(args[0])));
        JavaCompiler compiler = ToolProvider.getSystemJavaCompiler();
        try (StandardJavaFileManager files = compiler.getStandardFileManager(null, null, null)) {
            JavacTask task = (JavacTask) compiler.getTask(null, files, null, List.of("-proc:none"), null,
                    files.getJavaFileObjects(Path.of(args[0])));
            Iterable<? extends CompilationUnitTree> units = task.parse();
            task.analyze();
            for (CompilationUnitTree unit : units) {
                Rules rules = new Rules(Trees.instance(task), unit);
                rules.scan(unit, null);
                rules.end();
            }
        }
        Check.end("LanguageTest");
    }

    private static void text(String file) {
        String code = file.replaceAll("(?s)/\\*.*?\\*/", "").replaceAll("//[^\n]*", "");
        for (String pattern : FORBIDDEN) {
            Check.equal("uses of " + pattern, Pattern.compile(pattern).matcher(code).find() ? 1 : 0, 0);
        }
    }

    private static final class Rules extends TreePathScanner<Void, Void> {
        private final Trees trees;
        private final CompilationUnitTree unit;
        private int classes = 0;
        private Element method = null;
        private final Map<Element, Set<Element>> calls = new HashMap<>();
        private final List<Element> face = new ArrayList<>();

        Rules(Trees trees, CompilationUnitTree unit) {
            this.trees = trees;
            this.unit = unit;
        }

        private void rule(int number, Tree where, boolean kept) {
            long line = unit.getLineMap().getLineNumber(trees.getSourcePositions().getStartPosition(unit, where));
            Check.equal("line " + line + ": rule " + number + " is kept", kept ? 1 : 0, 1);
        }

        private Element element(Tree tree) {
            return trees.getElement(new TreePath(getCurrentPath(), tree));
        }

        private TypeMirror type(Tree tree) {
            return trees.getTypeMirror(new TreePath(getCurrentPath(), tree));
        }

        private static boolean isOwn(Element element) {
            Element outer = element;
            while (outer != null && outer.getKind() != ElementKind.PACKAGE) {
                if (outer.getSimpleName().contentEquals("MemoryDesk")) {
                    return true;
                }
                outer = outer.getEnclosingElement();
            }
            return false;
        }

        // -- classes, fields, methods

        @Override
        public Void visitClass(ClassTree tree, Void none) {
            classes++;
            Set<Modifier> modifiers = tree.getModifiers().getFlags();
            boolean top = getCurrentPath().getParentPath().getLeaf() == unit;
            rule(1, tree, modifiers.contains(Modifier.PUBLIC) == top && modifiers.contains(Modifier.FINAL));
            rule(2, tree, top || modifiers.contains(Modifier.STATIC));
            rule(2, tree, !modifiers.contains(Modifier.PROTECTED) && tree.getExtendsClause() == null);
            int fields = 0;
            for (Tree member : tree.getMembers()) {
                boolean field = member instanceof VariableTree;
                if (field && !((VariableTree) member).getModifiers().getFlags().contains(Modifier.STATIC)) {
                    fields++;
                }
                rule(5, member, member.getKind() != Tree.Kind.BLOCK);
            }
            rule(11, tree, fields <= FIELDS);
            return super.visitClass(tree, none);
        }

        @Override
        public Void visitMethod(MethodTree tree, Void none) {
            Element before = method;
            method = trees.getElement(getCurrentPath());
            calls.putIfAbsent(method, new LinkedHashSet<>());
            if (method.getModifiers().contains(Modifier.PUBLIC)) {
                face.add(method);
            }
            long start = trees.getSourcePositions().getStartPosition(unit, tree);
            long end = trees.getSourcePositions().getEndPosition(unit, tree);
            if (end > start) {
                rule(11, tree, unit.getLineMap().getLineNumber(end) - unit.getLineMap().getLineNumber(start) < LINES);
            }
            rule(11, tree, tree.getParameters().size() <= PARAMETERS);
            rule(6, tree, !Set.of("equals", "hashCode", "toString").contains(tree.getName().toString()));
            super.visitMethod(tree, none);
            method = before;
            return null;
        }

        @Override
        public Void visitVariable(VariableTree tree, Void none) {
            TypeMirror type = trees.getTypeMirror(getCurrentPath());
            rule(3, tree, isAllowed(type, 1));
            if (tree.getModifiers().getFlags().contains(Modifier.STATIC)) {
                rule(5, tree, tree.getModifiers().getFlags().contains(Modifier.FINAL));
                rule(5, tree, CONSTANTS.contains(type.toString()));
                rule(5, tree, type.getKind() != TypeKind.ARRAY || tree.getInitializer() instanceof NewArrayTree);
            }
            return super.visitVariable(tree, none);
        }

        private boolean isAllowed(TypeMirror type, int dimension) {
            if (type.getKind() == TypeKind.ARRAY) {
                TypeMirror part = ((ArrayType) type).getComponentType();
                return NUMBERS.contains(part.getKind()) || dimension < 2 && isAllowed(part, dimension + 1)
                        && part.getKind() != TypeKind.ARRAY;
            }
            return NUMBERS.contains(type.getKind()) || type.toString().equals("java.lang.String")
                    || type.toString().startsWith("MemoryDesk.");
        }

        // -- calls, exceptions

        private void note(Element called) {
            // Without a method around it, the call stands in a field's initialiser.
            if (method != null) {
                calls.get(method).add(called);
            }
        }

        @Override
        public Void visitMethodInvocation(MethodInvocationTree tree, Void none) {
            Element called = trees.getElement(getCurrentPath());
            boolean constructor = called.getKind() == ElementKind.CONSTRUCTOR;
            String name = called.getEnclosingElement().getSimpleName() + "." + called.getSimpleName();
            rule(4, tree, constructor || isOwn(called) || LIBRARY.contains(name));
            if (!constructor) {
                note(called);
            }
            return super.visitMethodInvocation(tree, none);
        }

        @Override
        public Void visitNewClass(NewClassTree tree, Void none) {
            Element made = trees.getElement(getCurrentPath());
            boolean thrown = getCurrentPath().getParentPath().getLeaf() instanceof ThrowTree;
            rule(4, tree, isOwn(made) || thrown);
            rule(2, tree, tree.getClassBody() == null);
            if (isOwn(made)) {
                note(made);
            }
            return super.visitNewClass(tree, none);
        }

        @Override
        public Void visitThrow(ThrowTree tree, Void none) {
            boolean plain = tree.getExpression() instanceof NewClassTree;
            rule(6, tree, plain && method.getKind() == ElementKind.METHOD);
            if (plain) {
                NewClassTree made = (NewClassTree) tree.getExpression();
                rule(6, tree, EXCEPTIONS.contains(made.getIdentifier().toString()));
                rule(6, tree, made.getArguments().size() <= 1);
                for (ExpressionTree text : made.getArguments()) {
                    rule(6, tree, text instanceof LiteralTree && text.getKind() == Tree.Kind.STRING_LITERAL);
                }
            }
            return super.visitThrow(tree, none);
        }

        // -- operators

        private boolean isFraction(Tree tree) {
            return FRACTIONS.contains(type(tree).getKind());
        }

        private boolean isObject(Tree tree) {
            return type(tree).getKind() == TypeKind.DECLARED;
        }

        @Override
        public Void visitBinary(BinaryTree tree, Void none) {
            ExpressionTree left = tree.getLeftOperand();
            ExpressionTree right = tree.getRightOperand();
            rule(10, tree, !isObject(left) && !isObject(right));
            if (isFraction(left) || isFraction(right)) {
                rule(3, tree, FRACTION_OPERATORS.contains(tree.getKind()));
            }
            return super.visitBinary(tree, none);
        }

        @Override
        public Void visitTypeCast(TypeCastTree tree, Void none) {
            rule(6, tree, NUMBERS.contains(type(tree.getType()).getKind()));
            return super.visitTypeCast(tree, none);
        }

        /** An array that is a constant is never changed. */
        private void isChanged(ExpressionTree target) {
            if (target instanceof ArrayAccessTree) {
                Element array = element(((ArrayAccessTree) target).getExpression());
                rule(5, target, array == null || !array.getModifiers().contains(Modifier.STATIC));
            }
        }

        @Override
        public Void visitAssignment(AssignmentTree tree, Void none) {
            isChanged(tree.getVariable());
            return super.visitAssignment(tree, none);
        }

        @Override
        public Void visitCompoundAssignment(CompoundAssignmentTree tree, Void none) {
            isChanged(tree.getVariable());
            return super.visitCompoundAssignment(tree, none);
        }

        @Override
        public Void visitUnary(UnaryTree tree, Void none) {
            if (STEPS.contains(tree.getKind())) {
                isChanged(tree.getExpression());
            }
            return super.visitUnary(tree, none);
        }

        // -- what does not come at all

        @Override
        public Void visitImport(ImportTree tree, Void none) {
            rule(4, tree, false);
            return null;
        }

        @Override
        public Void visitLambdaExpression(LambdaExpressionTree tree, Void none) {
            rule(2, tree, false);
            return null;
        }

        @Override
        public Void visitMemberReference(MemberReferenceTree tree, Void none) {
            rule(2, tree, false);
            return null;
        }

        @Override
        public Void visitTry(TryTree tree, Void none) {
            rule(6, tree, false);
            return null;
        }

        @Override
        public Void visitSynchronized(SynchronizedTree tree, Void none) {
            rule(6, tree, false);
            return null;
        }

        @Override
        public Void visitAssert(AssertTree tree, Void none) {
            rule(6, tree, false);
            return null;
        }

        // -- the whole file

        private int depth(Element from, Set<Element> above) {
            Check.equal("recursion of " + from, above.contains(from) ? 1 : 0, 0);
            if (above.contains(from)) {
                return 0;
            }
            Set<Element> open = new HashSet<>(above);
            open.add(from);
            int deepest = 0;
            for (Element called : calls.getOrDefault(from, Set.of())) {
                deepest = Math.max(deepest, depth(called, open));
            }
            return deepest + 1;
        }

        void end() {
            Check.equal("rule 11: classes", classes <= CLASSES ? 1 : 0, 1);
            Check.equal("the calls and the constructor of the face", face.size(), 30);
            for (Element called : face) {
                int depth = depth(called, Set.of());
                if (depth > DEPTH) {
                    Check.fail("rule 11: " + called + " goes " + depth + " deep");
                }
            }
        }
    }
}

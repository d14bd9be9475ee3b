import com.sun.source.tree.ArrayTypeTree;
import com.sun.source.tree.AssertTree;
import com.sun.source.tree.BinaryTree;
import com.sun.source.tree.BlockTree;
import com.sun.source.tree.ClassTree;
import com.sun.source.tree.CompilationUnitTree;
import com.sun.source.tree.CompoundAssignmentTree;
import com.sun.source.tree.ExpressionTree;
import com.sun.source.tree.ImportTree;
import com.sun.source.tree.LambdaExpressionTree;
import com.sun.source.tree.LiteralTree;
import com.sun.source.tree.MemberReferenceTree;
import com.sun.source.tree.MethodInvocationTree;
import com.sun.source.tree.MethodTree;
import com.sun.source.tree.NewClassTree;
import com.sun.source.tree.SynchronizedTree;
import com.sun.source.tree.ThrowTree;
import com.sun.source.tree.Tree;
import com.sun.source.tree.TryTree;
import com.sun.source.tree.TypeCastTree;
import com.sun.source.tree.VariableTree;
import com.sun.source.util.JavacTask;
import com.sun.source.util.TreePath;
import com.sun.source.util.TreePathScanner;
import com.sun.source.util.Trees;
import java.io.IOException;
import java.nio.file.Path;
import java.util.HashSet;
import java.util.List;
import java.util.Map;
import java.util.Set;
import java.util.TreeMap;
import java.util.TreeSet;
import javax.lang.model.element.Element;
import javax.lang.model.element.ElementKind;
import javax.lang.model.element.Modifier;
import javax.lang.model.element.TypeElement;
import javax.lang.model.type.TypeKind;
import javax.lang.model.type.TypeMirror;
import javax.tools.JavaCompiler;
import javax.tools.StandardJavaFileManager;
import javax.tools.ToolProvider;

/**
 * The rules of LANGUAGE.md that can be seen in the source without running it. Where the class does with less than
 * a rule allows (no try, no cast, no recursion, nothing made but in constructors), the test asks for the less.
 */
public final class LanguageTest {
    private static final Set<String> LIBRARY = Set.of("Math.max", "Math.min", "Integer.bitCount", "Arrays.fill");
    private static final Set<String> EXCEPTIONS = Set.of(
            "IllegalStateException", "IllegalArgumentException", "IndexOutOfBoundsException");
    private static final int MOST_PARAMETERS = 7;
    private static final int MOST_LINES = 60;
    private static final int MOST_DEPTH = 8;
    private static final int MOST_CLASSES = 12;
    private static final int MOST_FIELDS = 20;

    private static int wrong = 0;
    private static int seen = 0;

    private static void demand(boolean holds, int rule, String what) {
        seen++;
        if (!holds) {
            wrong++;
            System.out.println("LANGUAGE.md, rule " + rule + ": " + what);
        }
    }

    private static final class Scanner extends TreePathScanner<Void, Void> {
        final CompilationUnitTree unit;
        final Trees trees;
        final Map<String, Set<String>> callees = new TreeMap<>();
        final Set<String> publicNames = new HashSet<>();
        final Set<String> otherNames = new HashSet<>();
        int classes = 0;

        Scanner(CompilationUnitTree unit, Trees trees) {
            this.unit = unit;
            this.trees = trees;
        }

        String place(Tree tree) {
            long at = trees.getSourcePositions().getStartPosition(unit, tree);
            return "line " + unit.getLineMap().getLineNumber(at);
        }

        String methodAround() {
            for (TreePath path = getCurrentPath(); path != null; path = path.getParentPath()) {
                if (path.getLeaf() instanceof MethodTree) {
                    return nameOf(trees.getElement(path));
                }
            }
            return "";
        }

        static String nameOf(Element method) {
            return method.getEnclosingElement().getSimpleName() + "." + method.getSimpleName();
        }

        static boolean isOwn(Element element) {
            for (Element around = element; around != null; around = around.getEnclosingElement()) {
                if (around.getSimpleName().contentEquals("RoomFills")) {
                    return true;
                }
            }
            return false;
        }

        boolean isText(Tree tree) {
            TypeMirror type = trees.getTypeMirror(new TreePath(getCurrentPath(), tree));
            return type != null && type.toString().equals("java.lang.String");
        }

        void refuse(Tree tree, int rule, String what) {
            demand(false, rule, what + " in " + place(tree));
        }

        @Override
        public Void visitImport(ImportTree tree, Void none) {
            String name = tree.getQualifiedIdentifier().toString();
            demand(!tree.isStatic() && name.equals("java.util.Arrays"), 4, "import of " + name);
            return super.visitImport(tree, none);
        }

        @Override
        public Void visitClass(ClassTree tree, Void none) {
            classes++;
            TypeElement element = (TypeElement) trees.getElement(getCurrentPath());
            Set<Modifier> modifiers = element.getModifiers();
            boolean isOuter = element.getEnclosingElement().getKind() == ElementKind.PACKAGE;
            demand(modifiers.contains(Modifier.FINAL), 1, element + " is not final");
            demand(isOuter ? modifiers.contains(Modifier.PUBLIC)
                    : modifiers.contains(Modifier.PRIVATE) && modifiers.contains(Modifier.STATIC),
                    1, element + " is not public, or not private and static");
            demand(element.getKind() == ElementKind.CLASS && tree.getExtendsClause() == null
                    && tree.getImplementsClause().isEmpty(), 2, element + " is no plain class");
            int fields = 0;
            for (Tree member : tree.getMembers()) {
                if (member instanceof VariableTree field) {
                    fields += field.getModifiers().getFlags().contains(Modifier.STATIC) ? 0 : 1;
                    visitField(field);
                }
            }
            demand(fields <= MOST_FIELDS, 11, element + " has " + fields + " fields");
            return super.visitClass(tree, none);
        }

        void visitField(VariableTree field) {
            Set<Modifier> flags = field.getModifiers().getFlags();
            if (flags.contains(Modifier.STATIC)) {
                Tree.Kind kind = field.getType().getKind();
                demand(flags.contains(Modifier.FINAL) && kind == Tree.Kind.PRIMITIVE_TYPE, 5,
                        field.getName() + " is no constant");
            }
        }

        @Override
        public Void visitVariable(VariableTree tree, Void none) {
            TypeMirror type = trees.getTypeMirror(getCurrentPath());
            boolean isArrayOfNumbers = tree.getType() instanceof ArrayTypeTree array
                    && array.getType().getKind() == Tree.Kind.PRIMITIVE_TYPE;
            boolean isOwnClass = type.getKind() == TypeKind.DECLARED && type.toString().startsWith("RoomFills");
            demand(type.getKind() == TypeKind.INT || type.getKind() == TypeKind.LONG || type.getKind() == TypeKind.BOOLEAN
                    || isArrayOfNumbers || isOwnClass, 3, tree.getName() + " is of type " + type);
            return super.visitVariable(tree, none);
        }

        @Override
        public Void visitMethod(MethodTree tree, Void none) {
            Element method = trees.getElement(getCurrentPath());
            String name = nameOf(method);
            callees.putIfAbsent(name, new TreeSet<>());
            if (!method.getSimpleName().contentEquals("<init>")) {
                boolean isPublic = method.getModifiers().contains(Modifier.PUBLIC);
                (isPublic ? publicNames : otherNames).add(method.getSimpleName().toString());
            }
            demand(tree.getParameters().size() <= MOST_PARAMETERS, 11, name + " takes too many parameters");
            long from = trees.getSourcePositions().getStartPosition(unit, tree);
            long to = trees.getSourcePositions().getEndPosition(unit, tree);
            if (from >= 0 && to >= 0) {
                long lines = unit.getLineMap().getLineNumber(to) - unit.getLineMap().getLineNumber(from) + 1;
                demand(lines <= MOST_LINES, 11, name + " has " + lines + " lines");
            }
            return super.visitMethod(tree, none);
        }

        @Override
        public Void visitMethodInvocation(MethodInvocationTree tree, Void none) {
            Element callee = trees.getElement(getCurrentPath());
            String name = nameOf(callee);
            if (isOwn(callee)) {
                note(name);
            } else if (!name.equals("Object.<init>")) {
                demand(LIBRARY.contains(name), 4, name + " in " + place(tree));
            }
            return super.visitMethodInvocation(tree, none);
        }

        void note(String callee) {
            callees.computeIfAbsent(methodAround(), key -> new TreeSet<>()).add(callee);
        }

        @Override
        public Void visitNewClass(NewClassTree tree, Void none) {
            String made = tree.getIdentifier().toString();
            if (isOwn(trees.getElement(getCurrentPath()))) {
                note(made + ".<init>");
                demand(methodAround().endsWith(".<init>"), 12, made + " is made out of a constructor, " + place(tree));
            } else {
                demand(getCurrentPath().getParentPath().getLeaf() instanceof ThrowTree, 3,
                        made + " is made but not thrown, " + place(tree));
            }
            demand(tree.getClassBody() == null, 2, "a class without a name, " + place(tree));
            return super.visitNewClass(tree, none);
        }

        @Override
        public Void visitThrow(ThrowTree tree, Void none) {
            demand(!methodAround().endsWith(".<init>"), 6, "a throw in a constructor, " + place(tree));
            ExpressionTree thrown = tree.getExpression();
            boolean isPlain = thrown instanceof NewClassTree made
                    && EXCEPTIONS.contains(made.getIdentifier().toString()) && hasWrittenText(made.getArguments());
            demand(isPlain, 6, "what is thrown in " + place(tree));
            return super.visitThrow(tree, none);
        }

        static boolean hasWrittenText(List<? extends ExpressionTree> arguments) {
            return arguments.isEmpty() || arguments.size() == 1 && arguments.get(0) instanceof LiteralTree;
        }

        @Override
        public Void visitBinary(BinaryTree tree, Void none) {
            boolean joins = tree.getKind() == Tree.Kind.PLUS
                    && (isText(tree.getLeftOperand()) || isText(tree.getRightOperand()));
            demand(!joins, 10, "texts are joined by +, " + place(tree));
            boolean divides = tree.getKind() == Tree.Kind.DIVIDE || tree.getKind() == Tree.Kind.REMAINDER;
            demand(!divides, 7, "a division, " + place(tree));
            return super.visitBinary(tree, none);
        }

        @Override
        public Void visitCompoundAssignment(CompoundAssignmentTree tree, Void none) {
            Tree.Kind kind = tree.getKind();
            boolean divides = kind == Tree.Kind.DIVIDE_ASSIGNMENT || kind == Tree.Kind.REMAINDER_ASSIGNMENT;
            demand(!divides, 7, "a division, " + place(tree));
            return super.visitCompoundAssignment(tree, none);
        }

        @Override
        public Void visitBlock(BlockTree tree, Void none) {
            demand(!(getCurrentPath().getParentPath().getLeaf() instanceof ClassTree), 5, "an initialiser, " + place(tree));
            return super.visitBlock(tree, none);
        }

        @Override
        public Void visitLambdaExpression(LambdaExpressionTree tree, Void none) {
            refuse(tree, 2, "a lambda");
            return super.visitLambdaExpression(tree, none);
        }

        @Override
        public Void visitMemberReference(MemberReferenceTree tree, Void none) {
            refuse(tree, 2, "a method reference");
            return super.visitMemberReference(tree, none);
        }

        @Override
        public Void visitTry(TryTree tree, Void none) {
            refuse(tree, 6, "a try");
            return super.visitTry(tree, none);
        }

        @Override
        public Void visitSynchronized(SynchronizedTree tree, Void none) {
            refuse(tree, 6, "synchronized");
            return super.visitSynchronized(tree, none);
        }

        @Override
        public Void visitAssert(AssertTree tree, Void none) {
            refuse(tree, 6, "an assert");
            return super.visitAssert(tree, none);
        }

        @Override
        public Void visitTypeCast(TypeCastTree tree, Void none) {
            refuse(tree, 6, "a cast");
            return super.visitTypeCast(tree, none);
        }

        /** How many methods stand open at once at most, from this one on. */
        int depth(String method, Set<String> open) {
            if (!open.add(method)) {
                demand(false, 8, method + " calls itself, perhaps through others");
                return 0;
            }
            int deepest = 0;
            for (String callee : callees.getOrDefault(method, Set.of())) {
                deepest = Math.max(deepest, depth(callee, open));
            }
            open.remove(method);
            return 1 + deepest;
        }

        void demandWhole() {
            demand(classes <= MOST_CLASSES, 11, classes + " classes");
            for (String method : callees.keySet()) {
                int deep = depth(method, new HashSet<>());
                demand(deep <= MOST_DEPTH, 11, method + " goes " + deep + " calls deep");
            }
            for (String name : otherNames) {
                demand(!publicNames.contains(name), 1, name + " bears the name of a public method");
            }
        }
    }

    public static void main(String[] args) throws IOException {
        JavaCompiler compiler = ToolProvider.getSystemJavaCompiler();
        StandardJavaFileManager files = compiler.getStandardFileManager(null, null, null);
        JavacTask task = (JavacTask) compiler.getTask(null, files, null, List.of("--release", "17", "-proc:none"), null,
                files.getJavaFileObjects(Path.of("src/main/java/RoomFills.java")));
        CompilationUnitTree unit = task.parse().iterator().next();
        task.analyze();
        demand(unit.getPackage() == null, 1, "a package line");
        demand(unit.getTypeDecls().size() == 1, 1, "more than one class outside");
        Scanner scanner = new Scanner(unit, Trees.instance(task));
        scanner.scan(unit, null);
        scanner.demandWhole();
        System.out.println(wrong == 0 ? "the form is as due, looked at " + seen + " times" : wrong + " things are not as due");
        if (wrong != 0) {
            System.exit(1);
        }
    }
}

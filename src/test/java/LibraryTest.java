import com.sun.source.tree.AssertTree;
import com.sun.source.tree.BinaryTree;
import com.sun.source.tree.ClassTree;
import com.sun.source.tree.ExpressionTree;
import com.sun.source.tree.LambdaExpressionTree;
import com.sun.source.tree.MemberReferenceTree;
import com.sun.source.tree.MemberSelectTree;
import com.sun.source.tree.MethodInvocationTree;
import com.sun.source.tree.MethodTree;
import com.sun.source.tree.NewClassTree;
import com.sun.source.tree.SynchronizedTree;
import com.sun.source.tree.ThrowTree;
import com.sun.source.tree.Tree;
import com.sun.source.tree.TryTree;
import com.sun.source.tree.TypeCastTree;
import com.sun.source.tree.VariableTree;
import com.sun.source.util.JavacTask;
import com.sun.source.util.TreePath;
import com.sun.source.util.TreePathScanner;
import com.sun.source.util.Trees;
import java.nio.file.Path;
import java.util.List;
import java.util.Set;
import javax.lang.model.element.Element;
import javax.lang.model.element.ElementKind;
import javax.lang.model.element.ExecutableElement;
import javax.lang.model.element.Modifier;
import javax.lang.model.element.VariableElement;
import javax.lang.model.type.TypeKind;
import javax.lang.model.type.TypeMirror;
import javax.tools.JavaCompiler;
import javax.tools.StandardJavaFileManager;
import javax.tools.ToolProvider;

/** The rules 2 to 6 of LANGUAGE.md, looked at in the tree that the compiler makes of the class: types and calls. */
public final class LibraryTest {
    private static final Checks CHECKS = new Checks();
    /** Of what rule 4 lists, as much as the class uses. */
    private static final Set<String> CALLS = Set.of(
            "java.lang.StringBuilder.append(char)", "java.lang.StringBuilder.append(java.lang.String)",
            "java.lang.StringBuilder.append(int)", "java.lang.StringBuilder.charAt(int)",
            "java.lang.StringBuilder.setLength(int)", "java.lang.StringBuilder.length()",
            "java.lang.Math.max(int,int)", "java.lang.Math.min(int,int)", "java.lang.Long.bitCount(long)",
            "java.lang.System.arraycopy(java.lang.Object,int,java.lang.Object,int,int)",
            "java.lang.Object.Object()", "java.lang.StringBuilder.StringBuilder()");
    private static final Set<String> EXCEPTIONS = Set.of("java.lang.IllegalStateException",
            "java.lang.IllegalArgumentException", "java.lang.IndexOutOfBoundsException", "java.lang.ArithmeticException",
            "java.lang.UnsupportedOperationException", "java.util.NoSuchElementException", "java.lang.RuntimeException");

    private LibraryTest() {
    }

    public static void main(String[] args) throws Exception {
        JavaCompiler compiler = ToolProvider.getSystemJavaCompiler();
        try (StandardJavaFileManager files = compiler.getStandardFileManager(null, null, null)) {
            JavacTask task = (JavacTask) compiler.getTask(null, files, null, List.of("-proc:none"), null,
                    files.getJavaFileObjects(Path.of("src/main/java/Unwindlens.java")));
            Trees trees = Trees.instance(task);
            var units = task.parse();
            task.analyze();
            Scanner scanner = new Scanner(trees);
            scanner.scan(units, null);
            CHECKS.yes("calls are looked at", scanner.calls > 300);
            CHECKS.yes("variables are looked at", scanner.variables > 300);
            CHECKS.yes("throws are looked at", scanner.throwsSeen > 30);
        }
        CHECKS.end("LibraryTest");
    }

    private static final class Scanner extends TreePathScanner<Void, Void> {
        private final Trees trees;
        private int calls;
        private int variables;
        private int throwsSeen;

        Scanner(Trees trees) {
            this.trees = trees;
        }

        private String at(Tree tree) {
            TreePath path = getCurrentPath();
            long position = trees.getSourcePositions().getStartPosition(path.getCompilationUnit(), tree);
            return "line " + path.getCompilationUnit().getLineMap().getLineNumber(position) + ": ";
        }

        private void never(Tree tree, String what) {
            CHECKS.yes(at(tree) + "no " + what, false);
        }

        private TypeMirror typeOf(Tree tree) {
            return trees.getTypeMirror(new TreePath(getCurrentPath(), tree));
        }

        private static boolean isOwn(String name) {
            return name.equals("Unwindlens") || name.startsWith("Unwindlens.");
        }

        /** Rule 3: numbers, own classes, String, StringBuilder, and arrays of one dimension of numbers or own classes. */
        private static boolean isAllowed(TypeMirror type) {
            if (type.getKind() == TypeKind.ARRAY) {
                TypeMirror element = ((javax.lang.model.type.ArrayType) type).getComponentType();
                return element.getKind().isPrimitive() || isOwn(element.toString());
            }
            return type.getKind().isPrimitive() || isOwn(type.toString()) || type.toString().equals("java.lang.String")
                    || type.toString().equals("java.lang.StringBuilder");
        }

        @Override
        public Void visitVariable(VariableTree tree, Void nothing) {
            variables++;
            VariableElement variable = (VariableElement) trees.getElement(getCurrentPath());
            CHECKS.yes(at(tree) + variable.asType() + " is a type of rule 3", isAllowed(variable.asType()));
            if (variable.getModifiers().contains(Modifier.STATIC)) {
                CHECKS.yes(at(tree) + variable + " is a constant", variable.getModifiers().contains(Modifier.FINAL)
                        && variable.getConstantValue() != null);
            }
            return super.visitVariable(tree, nothing);
        }

        @Override
        public Void visitMethodInvocation(MethodInvocationTree tree, Void nothing) {
            note(tree);
            return super.visitMethodInvocation(tree, nothing);
        }

        @Override
        public Void visitNewClass(NewClassTree tree, Void nothing) {
            note(tree);
            CHECKS.yes(at(tree) + "no anonymous class", tree.getClassBody() == null);
            return super.visitNewClass(tree, nothing);
        }

        private void note(Tree tree) {
            calls++;
            Element called = trees.getElement(getCurrentPath());
            if (!(called instanceof ExecutableElement)) {
                never(tree, "call of something unknown");
                return;
            }
            String owner = ownerOf(tree, called);
            String name = called.getKind() == ElementKind.CONSTRUCTOR
                    ? owner.substring(owner.lastIndexOf('.') + 1) + called.toString().substring(called.toString().indexOf('('))
                    : called.toString();
            boolean thrown = EXCEPTIONS.contains(owner) && getCurrentPath().getParentPath().getLeaf() instanceof ThrowTree;
            CHECKS.yes(at(tree) + owner + "." + name + " is a call of rule 4",
                    isOwn(owner) || thrown || CALLS.contains(owner + "." + name));
        }

        /** The class by which a method is called; it may stand in a class above that. */
        private String ownerOf(Tree tree, Element called) {
            if (tree instanceof MethodInvocationTree call && call.getMethodSelect() instanceof MemberSelectTree select) {
                TreePath path = new TreePath(getCurrentPath(), select);
                return trees.getTypeMirror(new TreePath(path, select.getExpression())).toString();
            }
            return called.getEnclosingElement().toString();
        }

        @Override
        public Void visitThrow(ThrowTree tree, Void nothing) {
            throwsSeen++;
            CHECKS.yes(at(tree) + "a new exception is thrown", tree.getExpression() instanceof NewClassTree);
            for (TreePath path = getCurrentPath(); path != null; path = path.getParentPath()) {
                if (path.getLeaf() instanceof MethodTree method) {
                    CHECKS.yes(at(tree) + "no throw in a constructor", method.getReturnType() != null);
                }
            }
            return super.visitThrow(tree, nothing);
        }

        @Override
        public Void visitTypeCast(TypeCastTree tree, Void nothing) {
            CHECKS.yes(at(tree) + "casts are of numbers", typeOf(tree.getType()).getKind().isPrimitive());
            return super.visitTypeCast(tree, nothing);
        }

        @Override
        public Void visitBinary(BinaryTree tree, Void nothing) {
            for (ExpressionTree side : List.of(tree.getLeftOperand(), tree.getRightOperand())) {
                CHECKS.yes(at(tree) + "operands are numbers", typeOf(side).getKind().isPrimitive());
            }
            return super.visitBinary(tree, nothing);
        }

        @Override
        public Void visitClass(ClassTree tree, Void nothing) {
            Element kind = trees.getElement(getCurrentPath());
            CHECKS.yes(at(tree) + kind + " is a class of the file", kind.getKind() == ElementKind.CLASS
                    && isOwn(kind.toString()) && kind.getEnclosingElement().getKind() != ElementKind.METHOD);
            return super.visitClass(tree, nothing);
        }

        @Override
        public Void visitTry(TryTree tree, Void nothing) {
            never(tree, "try");
            return super.visitTry(tree, nothing);
        }

        @Override
        public Void visitLambdaExpression(LambdaExpressionTree tree, Void nothing) {
            never(tree, "lambda");
            return super.visitLambdaExpression(tree, nothing);
        }

        @Override
        public Void visitMemberReference(MemberReferenceTree tree, Void nothing) {
            never(tree, "method reference");
            return super.visitMemberReference(tree, nothing);
        }

        @Override
        public Void visitAssert(AssertTree tree, Void nothing) {
            never(tree, "assert");
            return super.visitAssert(tree, nothing);
        }

        @Override
        public Void visitSynchronized(SynchronizedTree tree, Void nothing) {
            never(tree, "synchronized");
            return super.visitSynchronized(tree, nothing);
        }
    }
}

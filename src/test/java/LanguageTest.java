import com.sun.source.tree.AssertTree;
import com.sun.source.tree.BinaryTree;
import com.sun.source.tree.BlockTree;
import com.sun.source.tree.ClassTree;
import com.sun.source.tree.CompilationUnitTree;
import com.sun.source.tree.CompoundAssignmentTree;
import com.sun.source.tree.ExpressionTree;
import com.sun.source.tree.ForLoopTree;
import com.sun.source.tree.InstanceOfTree;
import com.sun.source.tree.LambdaExpressionTree;
import com.sun.source.tree.LiteralTree;
import com.sun.source.tree.MemberReferenceTree;
import com.sun.source.tree.MethodInvocationTree;
import com.sun.source.tree.MethodTree;
import com.sun.source.tree.NewArrayTree;
import com.sun.source.tree.NewClassTree;
import com.sun.source.tree.SynchronizedTree;
import com.sun.source.tree.ThrowTree;
import com.sun.source.tree.Tree;
import com.sun.source.tree.TryTree;
import com.sun.source.tree.TypeCastTree;
import com.sun.source.tree.VariableTree;
import com.sun.source.tree.WhileLoopTree;
import com.sun.source.util.JavacTask;
import com.sun.source.util.TreePath;
import com.sun.source.util.TreePathScanner;
import com.sun.source.util.Trees;
import java.io.IOException;
import java.nio.charset.StandardCharsets;
import java.nio.file.Files;
import java.nio.file.Path;
import java.util.List;
import java.util.Map;
import java.util.Set;
import java.util.TreeMap;
import java.util.TreeSet;
import javax.lang.model.element.Element;
import javax.lang.model.element.ElementKind;
import javax.lang.model.element.ExecutableElement;
import javax.lang.model.element.Modifier;
import javax.lang.model.element.VariableElement;
import javax.tools.JavaCompiler;
import javax.tools.StandardJavaFileManager;
import javax.tools.ToolProvider;

/**
 * LANGUAGE.md, as far as a reader of the source can see to it; FaceTest sees to rule 1. Where the class
 * needs less than a rule leaves (no exception, no object made by a call), the test holds it to that.
 */
public final class LanguageTest {
    private static final Check check = new Check("LanguageTest");
    private static final Path SOURCE = Path.of("src/main/java/HuesApart.java");
    private static final Set<String> LIBRARY =
        Set.of("java.lang.Integer.bitCount", "java.util.Arrays.fill", "java.lang.System.arraycopy");
    private static final Set<String> TYPES = Set.of("int", "long", "short", "byte", "char", "boolean", "double", "float", "void");
    private static final Set<String> CONSTANTS = Set.of("int", "long", "boolean", "char", "String");
    private static final int MOST_LINES = 60;
    private static final int MOST_PARAMETERS = 7;
    private static final int MOST_FIELDS = 20;
    private static final int MOST_CLASSES = 12;
    private static final int MOST_DEEP = 8;

    public static void main(String[] args) throws IOException {
        text();
        JavaCompiler compiler = ToolProvider.getSystemJavaCompiler();
        if (compiler == null) {
            System.out.println("LanguageTest: this java has no compiler in it; the rules were not read");
            check.end();
            return;
        }
        try (StandardJavaFileManager files = compiler.getStandardFileManager(null, null, StandardCharsets.UTF_8)) {
            JavacTask task = (JavacTask) compiler.getTask(null, files, null, List.of("-proc:none"), null,
                files.getJavaFileObjects(SOURCE));
            CompilationUnitTree unit = task.parse().iterator().next();
            task.analyze();
            Reader reader = new Reader(Trees.instance(task), unit);
            reader.scan(unit, null);
            reader.whole();
        }
        check.end();
    }

    private static void no(String what, boolean wrong) {
        check.due(what, wrong ? 1 : 0, 0);
    }

    /** Rule 4: signs of written texts are 1 to 127; plain signs throughout are the simplest way to keep it. */
    private static void text() throws IOException {
        int other = 0;
        for (byte c : Files.readAllBytes(SOURCE)) {
            other += c > 0 ? 0 : 1;
        }
        check.due("signs that are not 1 to 127", other, 0);
    }

    private static final class Reader extends TreePathScanner<Void, Void> {
        private final Trees trees;
        private final CompilationUnitTree unit;
        private final Set<String> own = new TreeSet<>();
        private final Map<String, Set<String>> calls = new TreeMap<>();
        private String method = "";
        private boolean inConstructor;

        Reader(Trees trees, CompilationUnitTree unit) {
            this.trees = trees;
            this.unit = unit;
            collect(unit.getTypeDecls());
        }

        private void collect(List<? extends Tree> some) {
            for (Tree t : some) {
                if (t instanceof ClassTree c) {
                    own.add(c.getSimpleName().toString());
                    collect(c.getMembers());
                }
            }
        }

        private String at(Tree t) {
            long from = trees.getSourcePositions().getStartPosition(unit, t);
            return "line " + unit.getLineMap().getLineNumber(from) + ": ";
        }

        private int lines(Tree t) {
            long from = trees.getSourcePositions().getStartPosition(unit, t);
            long to = trees.getSourcePositions().getEndPosition(unit, t);
            return (int) (unit.getLineMap().getLineNumber(to) - unit.getLineMap().getLineNumber(from) + 1);
        }

        private static String nameOf(Element method) {
            return method.getEnclosingElement() + "." + method.getSimpleName();
        }

        /** Rules 8, 11: no method calls itself by any way, and calls go at most eight deep. */
        void whole() {
            no("a package line", unit.getPackageName() != null);
            check.due("types in the file", unit.getTypeDecls().size(), 1);
            no(own.size() + " classes", own.size() > MOST_CLASSES);
            for (Tree t : unit.getImports()) {
                check.due("import " + t, t.toString().trim().equals("import java.util.Arrays;") ? 1 : 0, 1);
            }
            no("no methods seen", calls.isEmpty());
            for (String from : calls.keySet()) {
                int deep = deepest(from, new TreeSet<>());
                no(from + " goes " + deep + " deep", deep > MOST_DEEP);
            }
        }

        private int deepest(String from, Set<String> open) {
            if (!open.add(from)) {
                return 1000;
            }
            int deep = 0;
            for (String to : calls.getOrDefault(from, Set.of())) {
                deep = Math.max(deep, deepest(to, open));
            }
            open.remove(from);
            return deep + 1;
        }

        /** Rules 1, 2, 11. */
        @Override
        public Void visitClass(ClassTree t, Void none) {
            Tree parent = getCurrentPath().getParentPath().getLeaf();
            no(at(t) + "a class within a method", !(parent instanceof ClassTree || parent instanceof CompilationUnitTree));
            no(at(t) + "a class inside that is not static", parent instanceof ClassTree && !t.getModifiers().getFlags().contains(Modifier.STATIC));
            int fields = 0;
            for (Tree member : t.getMembers()) {
                no(at(t) + "an initialiser block", member instanceof BlockTree);
                if (member instanceof VariableTree field) {
                    fields += field.getModifiers().getFlags().contains(Modifier.STATIC) ? 0 : 1;
                    field(field);
                }
            }
            no(at(t) + fields + " fields", fields > MOST_FIELDS);
            return super.visitClass(t, none);
        }

        /** Rule 5. */
        private void field(VariableTree t) {
            Set<Modifier> flags = t.getModifiers().getFlags();
            if (flags.contains(Modifier.STATIC)) {
                no(at(t) + "a static field that is not final", !flags.contains(Modifier.FINAL));
                no(at(t) + "a static field of this type", !CONSTANTS.contains(t.getType().toString()));
                VariableElement element = (VariableElement) trees.getElement(trees.getPath(unit, t));
                no(at(t) + "a static field that is no constant", element.getConstantValue() == null);
            }
        }

        /** Rules 3, 11. */
        @Override
        public Void visitMethod(MethodTree t, Void none) {
            ExecutableElement element = (ExecutableElement) trees.getElement(getCurrentPath());
            String before = method;
            boolean within = inConstructor;
            method = nameOf(element);
            inConstructor = element.getKind() == ElementKind.CONSTRUCTOR;
            no(at(t) + "two methods of one name", calls.containsKey(method));
            calls.put(method, new TreeSet<>());
            no(at(t) + lines(t) + " lines", lines(t) > MOST_LINES);
            no(at(t) + t.getParameters().size() + " parameters", t.getParameters().size() > MOST_PARAMETERS);
            if (t.getReturnType() != null) {
                type(t.getReturnType());
            }
            super.visitMethod(t, none);
            method = before;
            inConstructor = within;
            return null;
        }

        private void type(Tree t) {
            String name = t.toString();
            String element = name.endsWith("[]") ? name.substring(0, name.length() - 2) : name;
            no(at(t) + "type " + name, !TYPES.contains(element) && !own.contains(element));
        }

        @Override
        public Void visitVariable(VariableTree t, Void none) {
            type(t.getType());
            return super.visitVariable(t, none);
        }

        /** Rules 4, 13: nothing of the library but what is listed; so no Math on floats, no clock, no dice. */
        @Override
        public Void visitMethodInvocation(MethodInvocationTree t, Void none) {
            Element called = trees.getElement(new TreePath(getCurrentPath(), t.getMethodSelect()));
            if (called.getKind() != ElementKind.CONSTRUCTOR) {
                String name = nameOf(called);
                boolean ours = name.startsWith("HuesApart");
                no(at(t) + name, !ours && !LIBRARY.contains(name));
                if (ours) {
                    calls.get(method).add(name);
                }
            }
            return super.visitMethodInvocation(t, none);
        }

        /** Rule 12. */
        @Override
        public Void visitNewClass(NewClassTree t, Void none) {
            no(at(t) + "an object made by a call", !inConstructor);
            no(at(t) + "an object of the library", !own.contains(t.getIdentifier().toString()));
            no(at(t) + "a class without a name", t.getClassBody() != null);
            calls.get(method).add(nameOf(trees.getElement(getCurrentPath())));
            return super.visitNewClass(t, none);
        }

        @Override
        public Void visitNewArray(NewArrayTree t, Void none) {
            no(at(t) + "an array made by a call", !inConstructor);
            return super.visitNewArray(t, none);
        }

        /** Rules 3, 7: a divisor that is written out and not 0 needs no other look. */
        @Override
        public Void visitBinary(BinaryTree t, Void none) {
            if (t.getKind() == Tree.Kind.DIVIDE || t.getKind() == Tree.Kind.REMAINDER) {
                divisor(t, t.getRightOperand());
            }
            return super.visitBinary(t, none);
        }

        @Override
        public Void visitCompoundAssignment(CompoundAssignmentTree t, Void none) {
            if (t.getKind() == Tree.Kind.DIVIDE_ASSIGNMENT || t.getKind() == Tree.Kind.REMAINDER_ASSIGNMENT) {
                divisor(t, t.getExpression());
            }
            return super.visitCompoundAssignment(t, none);
        }

        private void divisor(Tree t, ExpressionTree by) {
            boolean fine = by instanceof LiteralTree literal && literal.getValue() instanceof Number n && n.doubleValue() != 0;
            no(at(t) + "a divisor that is not written out", !fine);
        }

        @Override
        public Void visitTypeCast(TypeCastTree t, Void none) {
            no(at(t) + "a cast of objects", !TYPES.contains(t.getType().toString()));
            return super.visitTypeCast(t, none);
        }

        /** Rule 9. */
        @Override
        public Void visitWhileLoop(WhileLoopTree t, Void none) {
            no(at(t) + "a loop without a bound", !t.getCondition().toString().contains("<") && !t.getCondition().toString().contains(">"));
            return super.visitWhileLoop(t, none);
        }

        @Override
        public Void visitForLoop(ForLoopTree t, Void none) {
            no(at(t) + "a loop without a bound", t.getCondition() == null || !t.getCondition().toString().contains("<"));
            return super.visitForLoop(t, none);
        }

        // Rules 2, 6: the document names no exception, so none is thrown or caught.

        @Override
        public Void visitTry(TryTree t, Void none) {
            no(at(t) + "try", true);
            return super.visitTry(t, none);
        }

        @Override
        public Void visitThrow(ThrowTree t, Void none) {
            no(at(t) + "throw", true);
            return super.visitThrow(t, none);
        }

        @Override
        public Void visitSynchronized(SynchronizedTree t, Void none) {
            no(at(t) + "synchronized", true);
            return super.visitSynchronized(t, none);
        }

        @Override
        public Void visitAssert(AssertTree t, Void none) {
            no(at(t) + "assert", true);
            return super.visitAssert(t, none);
        }

        @Override
        public Void visitInstanceOf(InstanceOfTree t, Void none) {
            no(at(t) + "instanceof", true);
            return super.visitInstanceOf(t, none);
        }

        @Override
        public Void visitLambdaExpression(LambdaExpressionTree t, Void none) {
            no(at(t) + "a lambda", true);
            return super.visitLambdaExpression(t, none);
        }

        @Override
        public Void visitMemberReference(MemberReferenceTree t, Void none) {
            no(at(t) + "a method reference", true);
            return super.visitMemberReference(t, none);
        }
    }
}

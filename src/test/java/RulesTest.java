import com.sun.source.tree.AssertTree;
import com.sun.source.tree.BinaryTree;
import com.sun.source.tree.BlockTree;
import com.sun.source.tree.ClassTree;
import com.sun.source.tree.CompilationUnitTree;
import com.sun.source.tree.DoWhileLoopTree;
import com.sun.source.tree.ExpressionTree;
import com.sun.source.tree.ForLoopTree;
import com.sun.source.tree.ImportTree;
import com.sun.source.tree.LambdaExpressionTree;
import com.sun.source.tree.LiteralTree;
import com.sun.source.tree.MemberReferenceTree;
import com.sun.source.tree.MethodInvocationTree;
import com.sun.source.tree.MethodTree;
import com.sun.source.tree.NewArrayTree;
import com.sun.source.tree.NewClassTree;
import com.sun.source.tree.ParenthesizedTree;
import com.sun.source.tree.SynchronizedTree;
import com.sun.source.tree.ThrowTree;
import com.sun.source.tree.Tree;
import com.sun.source.tree.TryTree;
import com.sun.source.tree.TypeCastTree;
import com.sun.source.tree.VariableTree;
import com.sun.source.tree.WhileLoopTree;
import com.sun.source.util.JavacTask;
import com.sun.source.util.SourcePositions;
import com.sun.source.util.TreePathScanner;
import com.sun.source.util.Trees;
import java.io.IOException;
import java.util.ArrayList;
import java.util.HashMap;
import java.util.List;
import java.util.Map;
import java.util.Set;
import java.util.TreeSet;
import javax.lang.model.element.Element;
import javax.lang.model.element.ElementKind;
import javax.lang.model.element.Modifier;
import javax.lang.model.type.ArrayType;
import javax.lang.model.type.TypeKind;
import javax.lang.model.type.TypeMirror;
import javax.tools.JavaCompiler;
import javax.tools.StandardJavaFileManager;
import javax.tools.ToolProvider;

/**
 * RectFile.java read by the compiler and held against LANGUAGE.md, rule by rule; stricter than it where the class needs
 * less: it has no exceptions (the document names none), no recursion, no lists.
 */
public final class RulesTest {
    // With the class itself.
    private static final int MOST_CLASSES = 12;
    private static final int MOST_FIELDS = 20;
    private static final int MOST_PARAMETERS = 7;
    private static final int MOST_LINES = 60;
    private static final int MOST_DEEP = 8;
    private static final Set<String> LIBRARY = Set.of(
            "java.lang.Math.min", "java.lang.Math.max", "java.lang.System.arraycopy", "java.util.Arrays.fill",
            "java.util.Arrays.copyOf", "java.lang.String.length", "java.lang.String.charAt");

    private static int wrong = 0;

    private static void wrong(String what) {
        wrong++;
        System.out.println(what);
    }

    /** Looks at every part of the source, and notes which method calls which. */
    private static final class Reader extends TreePathScanner<Void, String> {
        final Map<String, Set<String>> calls = new HashMap<>();
        final Set<String> face = new TreeSet<>();
        private final Trees trees;
        private final SourcePositions positions;
        private final CompilationUnitTree unit;
        private int classes = 0;

        Reader(Trees trees, CompilationUnitTree unit) {
            this.trees = trees;
            this.positions = trees.getSourcePositions();
            this.unit = unit;
        }

        private long lineOf(long position) {
            return unit.getLineMap().getLineNumber(position);
        }

        private void refuse(int rule, String what, Tree tree) {
            wrong("rule " + rule + ", line " + lineOf(positions.getStartPosition(unit, tree)) + ": " + what);
        }

        private TypeMirror typeOf(Tree tree) {
            return trees.getTypeMirror(trees.getPath(unit, tree));
        }

        private Element elementOf(Tree tree) {
            return trees.getElement(trees.getPath(unit, tree));
        }

        private static boolean isOwn(Element element) {
            for (Element e = element; e != null; e = e.getEnclosingElement()) {
                if (e.getKind() == ElementKind.CLASS && e.getSimpleName().contentEquals("RectFile")) {
                    return true;
                }
            }
            return false;
        }

        private static String nameOf(Element method) {
            return method.getEnclosingElement() + "." + method;
        }

        private void noteCall(String from, String to) {
            if (from != null) {
                calls.computeIfAbsent(from, f -> new TreeSet<>()).add(to);
            }
        }

        @Override
        public Void visitCompilationUnit(CompilationUnitTree tree, String from) {
            if (tree.getPackage() != null || tree.getTypeDecls().size() != 1) {
                refuse(1, "a package line, or another class", tree);
            }
            for (ImportTree line : tree.getImports()) {
                if (!line.getQualifiedIdentifier().toString().equals("java.util.Arrays")) {
                    refuse(4, line.toString(), line);
                }
            }
            return super.visitCompilationUnit(tree, from);
        }

        @Override
        public Void visitClass(ClassTree tree, String from) {
            classes++;
            if (classes > MOST_CLASSES) {
                refuse(11, "one class more than " + MOST_CLASSES, tree);
            }
            boolean outer = getCurrentPath().getParentPath().getLeaf() == unit;
            Set<Modifier> flags = tree.getModifiers().getFlags();
            if (outer ? !flags.equals(Set.of(Modifier.PUBLIC, Modifier.FINAL)) : !flags.contains(Modifier.STATIC)) {
                refuse(outer ? 1 : 2, "class " + tree.getSimpleName() + " " + flags, tree);
            }
            int fields = 0;
            for (Tree member : tree.getMembers()) {
                if (member instanceof VariableTree field && !field.getModifiers().getFlags().contains(Modifier.STATIC)) {
                    fields++;
                }
                if (member instanceof BlockTree block) {
                    refuse(5, "a block of its own in a class", block);
                }
            }
            if (fields > MOST_FIELDS) {
                refuse(11, fields + " fields", tree);
            }
            return super.visitClass(tree, from);
        }

        @Override
        public Void visitMethod(MethodTree tree, String from) {
            Element method = trees.getElement(getCurrentPath());
            String name = nameOf(method);
            calls.computeIfAbsent(name, n -> new TreeSet<>());
            if (method.getModifiers().contains(Modifier.PUBLIC)) {
                face.add(name);
            }
            if (tree.getParameters().size() > MOST_PARAMETERS) {
                refuse(11, name + " has " + tree.getParameters().size() + " parameters", tree);
            }
            long lines = lineOf(positions.getEndPosition(unit, tree)) - lineOf(positions.getStartPosition(unit, tree));
            if (lines >= MOST_LINES) {
                refuse(11, name + " has " + (lines + 1) + " lines", tree);
            }
            return super.visitMethod(tree, name);
        }

        @Override
        public Void visitMethodInvocation(MethodInvocationTree tree, String from) {
            Element method = elementOf(tree);
            String name = nameOf(method);
            String plain = name.substring(0, name.indexOf('('));
            // A constructor that names none calls that of Object.
            boolean begins = method.getKind() == ElementKind.CONSTRUCTOR;
            if (!isOwn(method) && !begins && !LIBRARY.contains(plain)) {
                refuse(4, name, tree);
            }
            if (!begins) {
                noteCall(from, name);
            }
            return super.visitMethodInvocation(tree, from);
        }

        @Override
        public Void visitNewClass(NewClassTree tree, String from) {
            Element made = elementOf(tree);
            if (!isOwn(made) || tree.getClassBody() != null) {
                refuse(3, "new " + tree.getIdentifier(), tree);
            }
            noteCall(from, nameOf(made));
            return super.visitNewClass(tree, from);
        }

        @Override
        public Void visitNewArray(NewArrayTree tree, String from) {
            checkType(typeOf(tree), tree);
            return super.visitNewArray(tree, from);
        }

        @Override
        public Void visitVariable(VariableTree tree, String from) {
            TypeMirror type = typeOf(tree);
            checkType(type, tree);
            Set<Modifier> flags = tree.getModifiers().getFlags();
            boolean constant = flags.contains(Modifier.FINAL) && type.getKind() == TypeKind.INT
                    && tree.getInitializer() != null;
            if (flags.contains(Modifier.STATIC) && !constant) {
                refuse(5, "static " + tree.getName(), tree);
            }
            return super.visitVariable(tree, from);
        }

        private void checkType(TypeMirror type, Tree tree) {
            TypeMirror part = type;
            int dimensions = 0;
            while (part instanceof ArrayType array) {
                part = array.getComponentType();
                dimensions++;
            }
            boolean number = part.getKind().isPrimitive();
            boolean own = part.toString().startsWith("RectFile");
            boolean text = part.toString().equals("java.lang.String") && dimensions == 0;
            if (!number && !own && !text || dimensions > (number ? 2 : 1)) {
                refuse(3, "a " + type, tree);
            }
        }

        @Override
        public Void visitBinary(BinaryTree tree, String from) {
            TypeMirror type = typeOf(tree);
            if (type.getKind() == TypeKind.DECLARED) {
                refuse(10, "texts joined by +", tree);
            }
            boolean floating = type.getKind() == TypeKind.FLOAT || type.getKind() == TypeKind.DOUBLE;
            if (floating && tree.getKind() == Tree.Kind.REMAINDER) {
                refuse(3, "a rest of floating numbers", tree);
            }
            return super.visitBinary(tree, from);
        }

        @Override
        public Void visitTypeCast(TypeCastTree tree, String from) {
            if (!typeOf(tree).getKind().isPrimitive()) {
                refuse(6, "a cast of an object", tree);
            }
            return super.visitTypeCast(tree, from);
        }

        private void checkCondition(ExpressionTree condition, Tree loop) {
            ExpressionTree inner = condition;
            while (inner instanceof ParenthesizedTree round) {
                inner = round.getExpression();
            }
            if (inner == null || inner instanceof LiteralTree) {
                refuse(9, "a loop without a bound", loop);
            }
        }

        @Override
        public Void visitForLoop(ForLoopTree tree, String from) {
            checkCondition(tree.getCondition(), tree);
            return super.visitForLoop(tree, from);
        }

        @Override
        public Void visitWhileLoop(WhileLoopTree tree, String from) {
            checkCondition(tree.getCondition(), tree);
            return super.visitWhileLoop(tree, from);
        }

        @Override
        public Void visitDoWhileLoop(DoWhileLoopTree tree, String from) {
            checkCondition(tree.getCondition(), tree);
            return super.visitDoWhileLoop(tree, from);
        }

        @Override
        public Void visitLambdaExpression(LambdaExpressionTree tree, String from) {
            refuse(2, "a lambda", tree);
            return null;
        }

        @Override
        public Void visitMemberReference(MemberReferenceTree tree, String from) {
            refuse(2, "a method reference", tree);
            return null;
        }

        @Override
        public Void visitTry(TryTree tree, String from) {
            refuse(6, "a try", tree);
            return null;
        }

        @Override
        public Void visitThrow(ThrowTree tree, String from) {
            refuse(6, "a throw, and the document names none", tree);
            return null;
        }

        @Override
        public Void visitSynchronized(SynchronizedTree tree, String from) {
            refuse(6, "synchronized", tree);
            return null;
        }

        @Override
        public Void visitAssert(AssertTree tree, String from) {
            refuse(6, "assert", tree);
            return null;
        }
    }

    /** The longest way of calls from a method on, itself and the library's functions too. */
    private static List<String> deepest(Map<String, Set<String>> calls, String method, List<String> open) {
        if (open.contains(method)) {
            wrong("rule 8: a method that calls itself: " + open + " " + method);
            return List.of();
        }
        List<String> nowOpen = new ArrayList<>(open);
        nowOpen.add(method);
        List<String> best = List.of();
        for (String called : calls.getOrDefault(method, Set.of())) {
            List<String> way = deepest(calls, called, nowOpen);
            best = way.size() > best.size() ? way : best;
        }
        List<String> whole = new ArrayList<>(List.of(method));
        whole.addAll(best);
        return whole;
    }

    private static void checkDepth(Reader reader) {
        for (String method : reader.face) {
            List<String> way = deepest(reader.calls, method, List.of());
            if (way.size() > MOST_DEEP) {
                wrong("rule 11: " + way.size() + " calls deep: " + way);
            }
        }
    }

    private static void checkUsed(Reader reader) {
        Set<String> used = new TreeSet<>(reader.face);
        List<String> open = new ArrayList<>(reader.face);
        while (!open.isEmpty()) {
            for (String called : reader.calls.getOrDefault(open.remove(0), Set.of())) {
                if (used.add(called)) {
                    open.add(called);
                }
            }
        }
        for (String method : reader.calls.keySet()) {
            if (!used.contains(method)) {
                wrong("no call of the face ever comes to " + method);
            }
        }
    }

    public static void main(String[] args) throws IOException {
        String source = args.length > 0 ? args[0] : "src/main/java/RectFile.java";
        JavaCompiler compiler = ToolProvider.getSystemJavaCompiler();
        try (StandardJavaFileManager files = compiler.getStandardFileManager(null, null, null)) {
            JavacTask task = (JavacTask) compiler.getTask(null, files, null, List.of("-proc:none"), null,
                    files.getJavaFileObjects(source));
            CompilationUnitTree unit = task.parse().iterator().next();
            task.analyze();
            Reader reader = new Reader(Trees.instance(task), unit);
            reader.scan(unit, null);
            checkDepth(reader);
            checkUsed(reader);
        }
        System.out.println(wrong == 0 ? "rules: as due" : "rules: " + wrong + " wrong");
        if (wrong != 0) {
            System.exit(1);
        }
    }
}

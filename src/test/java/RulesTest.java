import com.sun.source.tree.ClassTree;
import com.sun.source.tree.CompilationUnitTree;
import com.sun.source.tree.LambdaExpressionTree;
import com.sun.source.tree.MemberReferenceTree;
import com.sun.source.tree.MethodInvocationTree;
import com.sun.source.tree.MethodTree;
import com.sun.source.tree.NewClassTree;
import com.sun.source.tree.Tree;
import com.sun.source.tree.TypeCastTree;
import com.sun.source.util.JavacTask;
import com.sun.source.util.TreePath;
import com.sun.source.util.TreePathScanner;
import com.sun.source.util.Trees;
import java.io.IOException;
import java.util.HashMap;
import java.util.HashSet;
import java.util.List;
import java.util.Map;
import java.util.Set;
import java.util.TreeSet;
import javax.lang.model.element.Element;
import javax.lang.model.element.ElementKind;
import javax.lang.model.element.ExecutableElement;
import javax.tools.JavaCompiler;
import javax.tools.JavaFileObject;
import javax.tools.StandardJavaFileManager;
import javax.tools.ToolProvider;

/** The rules of LANGUAGE.md on what calls what, looked up in the source (its first argument) as the compiler sees it. */
public final class RulesTest {
    /** Of the library only these are called (rule 4). */
    private static final Set<String> LIBRARY = Set.of("String.length", "String.charAt", "Math.max", "Math.min",
        "Math.floorMod", "Integer.bitCount", "System.arraycopy", "Arrays.fill", "Object.<init>");
    private static final int DEEPEST = 8, LONGEST = 60, MOST_NUMBERS = 7;

    /** What each method and constructor calls of the program's own ones. */
    private static final Map<Element, Set<Element>> CALLS = new HashMap<>();
    private static final Set<String> OUTSIDE = new TreeSet<>();

    private RulesTest() {
    }

    public static void main(String[] args) throws IOException {
        if (args.length < 1) {
            System.out.println("the source is told by the first argument");
            System.exit(1);
        }
        JavaCompiler compiler = ToolProvider.getSystemJavaCompiler();
        try (StandardJavaFileManager files = compiler.getStandardFileManager(null, null, null)) {
            Iterable<? extends JavaFileObject> source = files.getJavaFileObjects(args[0]);
            JavacTask task = (JavacTask) compiler.getTask(null, files, null, List.of("-proc:none"), null, source);
            Iterable<? extends CompilationUnitTree> units = task.parse();
            task.analyze();
            for (CompilationUnitTree unit : units) {
                new Looker(Trees.instance(task), unit).scan(unit, null);
            }
        }
        for (String called : OUTSIDE) {
            Due.due("4: " + called + " of the library is called", LIBRARY.contains(called) ? 1 : 0, 1);
        }
        for (Element method : CALLS.keySet()) {
            int depth = depth(method, new HashSet<>());
            Due.due("8, 11: the calls that begin by " + method + " go " + depth + " deep, none calls itself",
                    depth <= DEEPEST ? 1 : 0, 1);
        }
        Due.due("methods are seen", CALLS.size() > Calls.values().length ? 1 : 0, 1);
        Due.end();
    }

    /** How many calls stand open at once, at the most; far too many if one calls itself. */
    private static int depth(Element method, Set<Element> open) {
        if (!open.add(method)) {
            return 1000;
        }
        int deepest = 0;
        for (Element called : CALLS.getOrDefault(method, Set.of())) {
            deepest = Math.max(deepest, depth(called, open));
        }
        open.remove(method);
        return deepest + 1;
    }

    private static final class Looker extends TreePathScanner<Void, Void> {
        private final Trees trees;
        private final CompilationUnitTree unit;
        private Element method = null;

        Looker(Trees trees, CompilationUnitTree unit) {
            this.trees = trees;
            this.unit = unit;
        }

        /** What makes a class's fields first is kept as calls of the class, and its constructors call that. */
        @Override
        public Void visitClass(ClassTree tree, Void none) {
            Element outer = method;
            method = trees.getElement(getCurrentPath());
            CALLS.putIfAbsent(method, new HashSet<>());
            super.visitClass(tree, none);
            method = outer;
            return null;
        }

        @Override
        public Void visitMethod(MethodTree tree, Void none) {
            Element outer = method;
            method = trees.getElement(getCurrentPath());
            CALLS.putIfAbsent(method, new HashSet<>());
            if (method.getKind() == ElementKind.CONSTRUCTOR) {
                CALLS.get(method).add(method.getEnclosingElement());
            }
            long first = line(trees.getSourcePositions().getStartPosition(unit, tree));
            long last = line(trees.getSourcePositions().getEndPosition(unit, tree));
            Due.due("11: " + method + " is of " + (last - first + 1) + " lines", last - first < LONGEST ? 1 : 0, 1);
            Due.due("11: numbers of " + method, tree.getParameters().size() <= MOST_NUMBERS ? 1 : 0, 1);
            super.visitMethod(tree, none);
            method = outer;
            return null;
        }

        private long line(long position) {
            return position < 0 ? 0 : unit.getLineMap().getLineNumber(position);
        }

        @Override
        public Void visitMethodInvocation(MethodInvocationTree tree, Void none) {
            called(trees.getElement(new TreePath(getCurrentPath(), tree.getMethodSelect())));
            return super.visitMethodInvocation(tree, none);
        }

        @Override
        public Void visitNewClass(NewClassTree tree, Void none) {
            Due.due("2: a class without a name at line " + lineOf(tree), tree.getClassBody() == null ? 1 : 0, 1);
            called(trees.getElement(getCurrentPath()));
            return super.visitNewClass(tree, none);
        }

        private void called(Element element) {
            if (!(element instanceof ExecutableElement)) {
                Due.due("a call of what is none", 1, 0);
                return;
            }
            Element owner = element.getEnclosingElement();
            if (owner.toString().startsWith("IceVote")) {
                CALLS.get(method).add(element);
            } else {
                OUTSIDE.add(owner.getSimpleName() + "." + element.getSimpleName());
            }
        }

        @Override
        public Void visitTypeCast(TypeCastTree tree, Void none) {
            Due.due("7: a cast to what is no number at line " + lineOf(tree),
                    tree.getType().getKind() == Tree.Kind.PRIMITIVE_TYPE ? 1 : 0, 1);
            return super.visitTypeCast(tree, none);
        }

        @Override
        public Void visitLambdaExpression(LambdaExpressionTree tree, Void none) {
            Due.due("2: a lambda at line " + lineOf(tree), 1, 0);
            return super.visitLambdaExpression(tree, none);
        }

        @Override
        public Void visitMemberReference(MemberReferenceTree tree, Void none) {
            Due.due("2: a method reference at line " + lineOf(tree), 1, 0);
            return super.visitMemberReference(tree, none);
        }

        private long lineOf(Tree tree) {
            return line(trees.getSourcePositions().getStartPosition(unit, tree));
        }
    }
}

import com.sun.source.tree.ArrayTypeTree;
import com.sun.source.tree.AssertTree;
import com.sun.source.tree.CatchTree;
import com.sun.source.tree.ClassTree;
import com.sun.source.tree.CompilationUnitTree;
import com.sun.source.tree.ImportTree;
import com.sun.source.tree.LambdaExpressionTree;
import com.sun.source.tree.MemberReferenceTree;
import com.sun.source.tree.MethodInvocationTree;
import com.sun.source.tree.MethodTree;
import com.sun.source.tree.NewClassTree;
import com.sun.source.tree.SynchronizedTree;
import com.sun.source.tree.ThrowTree;
import com.sun.source.tree.Tree;
import com.sun.source.tree.TryTree;
import com.sun.source.tree.VariableTree;
import com.sun.source.util.JavacTask;
import com.sun.source.util.TreePathScanner;
import com.sun.source.util.Trees;
import java.io.File;
import java.util.ArrayList;
import java.util.LinkedHashMap;
import java.util.LinkedHashSet;
import java.util.List;
import java.util.Map;
import java.util.Set;
import javax.lang.model.element.Element;
import javax.lang.model.element.Modifier;
import javax.tools.JavaCompiler;
import javax.tools.StandardJavaFileManager;
import javax.tools.ToolProvider;

/** The rules of LANGUAGE.md that the tree of the source shows: what it calls, how deep, how long. */
public final class LanguageTest {
    private static final int DEEPEST = 8;
    private static final int LONGEST = 60;
    private static final int MOST_CLASSES = 12;
    private static final int MOST_FIELDS = 20;
    private static final int MOST_PARAMETERS = 7;
    private static final Set<String> LIBRARY = Set.of("java.lang.Math.abs", "java.lang.Math.min",
            "java.lang.Math.max");

    private static int wrong = 0;

    private static void check(boolean holds, String what) {
        if (!holds) {
            wrong++;
            System.out.println("not so: " + what);
        }
    }

    private static final class Looker extends TreePathScanner<Void, Element> {
        final Trees trees;
        final CompilationUnitTree unit;
        final Map<Element, Set<Element>> calls = new LinkedHashMap<>();
        int classes = 0;

        Looker(Trees trees, CompilationUnitTree unit) {
            this.trees = trees;
            this.unit = unit;
        }

        private long line(long position) {
            return unit.getLineMap().getLineNumber(position);
        }

        private Void refuse(Tree tree) {
            check(false, "there is a " + tree.getKind() + " in line "
                    + line(trees.getSourcePositions().getStartPosition(unit, tree)));
            return null;
        }

        @Override
        public Void visitClass(ClassTree tree, Element caller) {
            classes++;
            int fields = 0;
            for (Tree member : tree.getMembers()) {
                if (member instanceof VariableTree) {
                    VariableTree field = (VariableTree) member;
                    Set<Modifier> how = field.getModifiers().getFlags();
                    check(!how.contains(Modifier.STATIC) || how.contains(Modifier.FINAL), field.getName() + " is final");
                    fields += how.contains(Modifier.STATIC) ? 0 : 1;
                }
                check(member.getKind() != Tree.Kind.BLOCK, "no initialiser blocks in " + tree.getSimpleName());
            }
            check(fields <= MOST_FIELDS, tree.getSimpleName() + " has " + fields + " fields");
            return super.visitClass(tree, caller);
        }

        @Override
        public Void visitMethod(MethodTree tree, Element caller) {
            Element its = trees.getElement(getCurrentPath());
            calls.put(its, new LinkedHashSet<>());
            long lines = line(trees.getSourcePositions().getEndPosition(unit, tree))
                    - line(trees.getSourcePositions().getStartPosition(unit, tree)) + 1;
            check(lines <= LONGEST, its + " has " + lines + " lines");
            check(tree.getParameters().size() <= MOST_PARAMETERS, its + " takes too much");
            return super.visitMethod(tree, its);
        }

        private void called(Element caller, Element callee) {
            if (caller == null || callee == null) {
                return;
            }
            calls.get(caller).add(callee);
            String owner = callee.getEnclosingElement().toString();
            if (!owner.startsWith("FourStrings") && !callee.getSimpleName().contentEquals("<init>")) {
                String name = owner + "." + callee.getSimpleName();
                check(LIBRARY.contains(name), caller + " calls " + name);
            }
        }

        @Override
        public Void visitMethodInvocation(MethodInvocationTree tree, Element caller) {
            called(caller, trees.getElement(getCurrentPath()));
            return super.visitMethodInvocation(tree, caller);
        }

        @Override
        public Void visitNewClass(NewClassTree tree, Element caller) {
            check(caller != null && caller.getSimpleName().contentEquals("<init>"),
                    "objects are made in constructors alone: " + tree);
            called(caller, trees.getElement(getCurrentPath()));
            return super.visitNewClass(tree, caller);
        }

        @Override
        public Void visitArrayType(ArrayTypeTree tree, Element caller) {
            check(!tree.toString().contains("[][][]"), "two dimensions at most: " + tree);
            return super.visitArrayType(tree, caller);
        }

        @Override
        public Void visitThrow(ThrowTree tree, Element caller) {
            return refuse(tree);
        }

        @Override
        public Void visitTry(TryTree tree, Element caller) {
            return refuse(tree);
        }

        @Override
        public Void visitCatch(CatchTree tree, Element caller) {
            return refuse(tree);
        }

        @Override
        public Void visitSynchronized(SynchronizedTree tree, Element caller) {
            return refuse(tree);
        }

        @Override
        public Void visitAssert(AssertTree tree, Element caller) {
            return refuse(tree);
        }

        @Override
        public Void visitLambdaExpression(LambdaExpressionTree tree, Element caller) {
            return refuse(tree);
        }

        @Override
        public Void visitMemberReference(MemberReferenceTree tree, Element caller) {
            return refuse(tree);
        }

        @Override
        public Void visitImport(ImportTree tree, Element caller) {
            return refuse(tree);
        }

        /** The longest way down from a method; a way that comes back to itself is a recursion. */
        List<String> deepest(Element from, List<Element> above) {
            check(!above.contains(from), from + " calls itself");
            List<String> best = List.of();
            if (!above.contains(from)) {
                List<Element> down = new ArrayList<>(above);
                down.add(from);
                for (Element next : calls.getOrDefault(from, Set.of())) {
                    List<String> way = deepest(next, down);
                    best = way.size() > best.size() ? way : best;
                }
            }
            List<String> whole = new ArrayList<>();
            whole.add(from.getSimpleName().toString());
            whole.addAll(best);
            return whole;
        }
    }

    public static void main(String[] args) throws Exception {
        String path = System.getenv("FOUR_STRINGS_SOURCE");
        File file = new File(path == null ? "src/main/java/FourStrings.java" : path);
        JavaCompiler compiler = ToolProvider.getSystemJavaCompiler();
        StandardJavaFileManager files = compiler.getStandardFileManager(null, null, null);
        JavacTask task = (JavacTask) compiler.getTask(null, files, null, List.of("--release", "17", "-proc:none"),
                null, files.getJavaFileObjects(file));
        CompilationUnitTree unit = task.parse().iterator().next();
        task.analyze();
        Looker looker = new Looker(Trees.instance(task), unit);
        looker.scan(unit, null);
        check(unit.getPackageName() == null, "no package");
        check(looker.classes <= MOST_CLASSES, looker.classes + " classes");
        check(looker.calls.size() > 16, "the looker has seen the methods");
        for (Element method : looker.calls.keySet()) {
            List<String> way = looker.deepest(method, List.of());
            check(way.size() <= DEEPEST, way.size() + " deep: " + way);
        }
        System.out.println(wrong == 0 ? "the source is as due" : wrong + " things are not as due");
        if (wrong != 0) {
            System.exit(1);
        }
    }
}

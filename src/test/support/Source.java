import com.sun.source.tree.ArrayAccessTree;
import com.sun.source.tree.AssignmentTree;
import com.sun.source.tree.BlockTree;
import com.sun.source.tree.CompilationUnitTree;
import com.sun.source.tree.CompoundAssignmentTree;
import com.sun.source.tree.MethodInvocationTree;
import com.sun.source.tree.MethodTree;
import com.sun.source.tree.NewClassTree;
import com.sun.source.tree.Tree;
import com.sun.source.tree.UnaryTree;
import com.sun.source.util.JavacTask;
import com.sun.source.util.TreePath;
import com.sun.source.util.TreePathScanner;
import com.sun.source.util.Trees;
import java.io.IOException;
import java.nio.file.Path;
import java.util.ArrayList;
import java.util.HashSet;
import java.util.LinkedHashMap;
import java.util.LinkedHashSet;
import java.util.List;
import java.util.Map;
import java.util.Set;
import javax.lang.model.element.Element;
import javax.lang.model.type.TypeMirror;
import javax.tools.DiagnosticCollector;
import javax.tools.JavaCompiler;
import javax.tools.JavaFileObject;
import javax.tools.StandardJavaFileManager;
import javax.tools.ToolProvider;

/** The source of a class as the compiler reads it: its pieces, their types, and what calls what. */
final class Source {
    private final Trees trees;
    private final CompilationUnitTree unit;
    private final List<TreePath> pieces = new ArrayList<>();
    /** For each method and constructor of the source, its own calls of others of the source. */
    private final Map<Element, Set<Element>> calls = new LinkedHashMap<>();

    Source(Path file) throws IOException {
        JavaCompiler compiler = ToolProvider.getSystemJavaCompiler();
        DiagnosticCollector<JavaFileObject> said = new DiagnosticCollector<>();
        StandardJavaFileManager files = compiler.getStandardFileManager(said, null, null);
        JavacTask task = (JavacTask) compiler.getTask(null, files, said,
                List.of("--release", "17", "-proc:none", "-encoding", "UTF-8"), null, files.getJavaFileObjects(file));
        unit = task.parse().iterator().next();
        task.analyze();
        if (!said.getDiagnostics().isEmpty()) {
            throw new IOException("the compiler is not content: " + said.getDiagnostics());
        }
        trees = Trees.instance(task);
        collect();
        for (TreePath method : all(MethodTree.class)) {
            calls.put(element(method), new LinkedHashSet<>());
        }
        collectCalls();
    }

    private void collect() {
        new TreePathScanner<Void, Void>() {
            @Override
            public Void scan(Tree tree, Void nothing) {
                if (tree != null && getCurrentPath() != null) {
                    pieces.add(new TreePath(getCurrentPath(), tree));
                }
                return super.scan(tree, nothing);
            }
        }.scan(new TreePath(unit), null);
    }

    private void collectCalls() {
        List<TreePath> made = all(MethodInvocationTree.class);
        made.addAll(all(NewClassTree.class));
        for (TreePath call : made) {
            Element callee = element(call);
            if (calls.containsKey(callee) && methodAround(call) != null) {
                calls.get(element(methodAround(call))).add(callee);
            }
        }
    }

    CompilationUnitTree unit() {
        return unit;
    }

    /** All pieces of that kind, in the order of the source. */
    List<TreePath> all(Class<? extends Tree> kind) {
        List<TreePath> found = new ArrayList<>();
        for (TreePath piece : pieces) {
            if (kind.isInstance(piece.getLeaf())) {
                found.add(piece);
            }
        }
        return found;
    }

    /** Those of that kind that stand inside a piece. */
    List<TreePath> inside(TreePath outer, Class<? extends Tree> kind) {
        List<TreePath> found = new ArrayList<>();
        for (TreePath piece : all(kind)) {
            for (TreePath around = piece; around != null; around = around.getParentPath()) {
                if (around.getLeaf() == outer.getLeaf()) {
                    found.add(piece);
                    break;
                }
            }
        }
        return found;
    }

    Element element(TreePath piece) {
        return trees.getElement(piece);
    }

    TypeMirror type(TreePath piece) {
        return trees.getTypeMirror(piece);
    }

    TypeMirror type(TreePath around, Tree piece) {
        return trees.getTypeMirror(new TreePath(around, piece));
    }

    /** The method or constructor in which a piece stands, or null. */
    TreePath methodAround(TreePath piece) {
        TreePath around = piece;
        while (around != null && !(around.getLeaf() instanceof MethodTree)) {
            around = around.getParentPath();
        }
        return around;
    }

    String methodName(TreePath piece) {
        TreePath method = methodAround(piece);
        return method == null ? "" : ((MethodTree) method.getLeaf()).getName().toString();
    }

    boolean isOwn(Element method) {
        return calls.containsKey(method);
    }

    Set<Element> callsOf(Element method) {
        return calls.get(method);
    }

    /** The method and all that are called from it, over whatever way. */
    Set<Element> reachedFrom(Element method) {
        Set<Element> reached = new LinkedHashSet<>();
        List<Element> open = new ArrayList<>(List.of(method));
        while (!open.isEmpty()) {
            Element next = open.remove(open.size() - 1);
            if (reached.add(next)) {
                open.addAll(calls.get(next));
            }
        }
        return reached;
    }

    /** How many calls stand open at most when the method runs; what calls itself ends the count. */
    int depth(Element method) {
        int deepest = 0;
        for (Element callee : callsItself(method) ? Set.<Element>of() : calls.get(method)) {
            deepest = Math.max(deepest, depth(callee));
        }
        return deepest + 1;
    }

    boolean callsItself(Element method) {
        for (Element callee : calls.get(method)) {
            if (reachedFrom(callee).contains(method)) {
                return true;
            }
        }
        return false;
    }

    /** What a piece writes to: the variables and fields, and those whose elements it writes to. */
    Set<Element> writtenIn(TreePath piece) {
        Set<Element> written = new HashSet<>();
        for (TreePath p : inside(piece, AssignmentTree.class)) {
            written.add(target(((AssignmentTree) p.getLeaf()).getVariable()));
        }
        for (TreePath p : inside(piece, CompoundAssignmentTree.class)) {
            written.add(target(((CompoundAssignmentTree) p.getLeaf()).getVariable()));
        }
        for (TreePath p : inside(piece, UnaryTree.class)) {
            if (isStep(p.getLeaf())) {
                written.add(target(((UnaryTree) p.getLeaf()).getExpression()));
            }
        }
        return written;
    }

    /** As writtenIn, with all that is written by the methods that are called there. */
    Set<Element> writtenFrom(TreePath piece) {
        Set<Element> written = writtenIn(piece);
        List<TreePath> made = inside(piece, MethodInvocationTree.class);
        made.addAll(inside(piece, NewClassTree.class));
        for (TreePath call : made) {
            if (isOwn(element(call))) {
                for (Element callee : reachedFrom(element(call))) {
                    written.addAll(writtenIn(trees.getPath(callee)));
                }
            }
        }
        return written;
    }

    private Element target(Tree variable) {
        Tree tree = variable;
        while (tree instanceof ArrayAccessTree access) {
            tree = access.getExpression();
        }
        return trees.getElement(trees.getPath(unit, tree));
    }

    static boolean isStep(Tree tree) {
        return tree.getKind() == Tree.Kind.POSTFIX_INCREMENT || tree.getKind() == Tree.Kind.PREFIX_INCREMENT
                || tree.getKind() == Tree.Kind.POSTFIX_DECREMENT || tree.getKind() == Tree.Kind.PREFIX_DECREMENT;
    }

    /** How many lines of the file a piece takes. */
    long lines(Tree tree) {
        long start = trees.getSourcePositions().getStartPosition(unit, tree);
        long end = trees.getSourcePositions().getEndPosition(unit, tree);
        return unit.getLineMap().getLineNumber(end) - unit.getLineMap().getLineNumber(start) + 1;
    }

    /** Where a piece stands, for a reader. */
    String at(TreePath piece) {
        long start = trees.getSourcePositions().getStartPosition(unit, piece.getLeaf());
        String text = piece.getLeaf().toString().strip();
        String shown = piece.getLeaf() instanceof BlockTree ? "{..}" : text.lines().findFirst().orElse("");
        return "line " + unit.getLineMap().getLineNumber(start) + ": " + shown;
    }
}

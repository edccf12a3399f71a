import com.sun.source.tree.CompilationUnitTree;
import com.sun.source.tree.Tree;
import com.sun.source.util.JavacTask;
import com.sun.source.util.TreePath;
import com.sun.source.util.TreePathScanner;
import com.sun.source.util.Trees;
import java.io.IOException;
import java.nio.file.Path;
import java.util.ArrayList;
import java.util.List;
import javax.lang.model.element.Element;
import javax.lang.model.type.TypeMirror;
import javax.tools.JavaCompiler;
import javax.tools.StandardJavaFileManager;
import javax.tools.ToolProvider;

/** The class's source as the compiler reads it: its parts, with what they name and their types. */
final class Source {
    final CompilationUnitTree unit;
    private final Trees trees;
    private final List<TreePath> parts = new ArrayList<>();

    Source(Path file) throws IOException {
        JavaCompiler compiler = ToolProvider.getSystemJavaCompiler();
        StandardJavaFileManager files = compiler.getStandardFileManager(null, null, null);
        JavacTask task = (JavacTask) compiler.getTask(null, files, null, List.of("-proc:none"), null, files.getJavaFileObjects(file));
        unit = task.parse().iterator().next();
        task.analyze();
        trees = Trees.instance(task);
        new TreePathScanner<Void, Void>() {
            @Override
            public Void scan(Tree tree, Void none) {
                if (tree != null) {
                    parts.add(getCurrentPath() == null ? new TreePath(unit) : new TreePath(getCurrentPath(), tree));
                }
                return super.scan(tree, none);
            }
        }.scan(new TreePath(unit), null);
    }

    /** The paths of all parts of a kind, in the order of the source. */
    List<TreePath> all(Class<? extends Tree> kind) {
        return within(null, kind);
    }

    /** Those of them that stand somewhere in a part; null: everywhere. */
    List<TreePath> within(Tree whole, Class<? extends Tree> kind) {
        List<TreePath> found = new ArrayList<>();
        for (TreePath path : parts) {
            if (kind.isInstance(path.getLeaf()) && (whole == null || isIn(path, whole))) {
                found.add(path);
            }
        }
        return found;
    }

    /** The nearest part of a kind around a part, or null. */
    static <T extends Tree> T around(TreePath path, Class<T> kind) {
        for (TreePath up = path.getParentPath(); up != null; up = up.getParentPath()) {
            if (kind.isInstance(up.getLeaf())) {
                return kind.cast(up.getLeaf());
            }
        }
        return null;
    }

    static boolean isIn(TreePath path, Tree whole) {
        for (TreePath up = path; up != null; up = up.getParentPath()) {
            if (up.getLeaf() == whole) {
                return true;
            }
        }
        return false;
    }

    Element named(TreePath path) {
        return trees.getElement(path);
    }

    TypeMirror type(TreePath path, Tree child) {
        return trees.getTypeMirror(new TreePath(path, child));
    }

    TypeMirror type(TreePath path) {
        return trees.getTypeMirror(path);
    }

    long firstLine(Tree tree) {
        return unit.getLineMap().getLineNumber(trees.getSourcePositions().getStartPosition(unit, tree));
    }

    long lastLine(Tree tree) {
        return unit.getLineMap().getLineNumber(trees.getSourcePositions().getEndPosition(unit, tree));
    }

    /** Constructors that the compiler adds by itself stand nowhere in the source. */
    boolean isWritten(Tree tree) {
        return trees.getSourcePositions().getEndPosition(unit, tree) >= 0;
    }
}

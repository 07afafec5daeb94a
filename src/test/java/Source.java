import com.sun.source.tree.CompilationUnitTree;
import com.sun.source.tree.Tree;
import com.sun.source.util.JavacTask;
import com.sun.source.util.TreePath;
import com.sun.source.util.Trees;
import java.io.IOException;
import java.nio.file.Path;
import java.util.List;
import javax.lang.model.element.Element;
import javax.lang.model.type.TypeMirror;
import javax.tools.JavaCompiler;
import javax.tools.StandardJavaFileManager;
import javax.tools.ToolProvider;

/** A Java file as the compiler reads it. */
final class Source {

    private final CompilationUnitTree unit;
    private final Trees trees;
    private final JavacTask task;

    Source(String file) throws IOException {
        JavaCompiler compiler = ToolProvider.getSystemJavaCompiler();
        StandardJavaFileManager files = compiler.getStandardFileManager(null, null, null);
        // Nothing is written: the compiler goes no further than telling what each name means.
        task = (JavacTask) compiler.getTask(null, files, null, List.of("-proc:none"), null, files.getJavaFileObjects(Path.of(file)));
        unit = task.parse().iterator().next();
        task.analyze();
        trees = Trees.instance(task);
    }

    CompilationUnitTree unit() {
        return unit;
    }

    Element elementOf(TreePath path) {
        return trees.getElement(path);
    }

    Element elementOf(TypeMirror type) {
        return task.getTypes().asElement(type);
    }

    TypeMirror typeOf(TreePath parent, Tree child) {
        return trees.getTypeMirror(new TreePath(parent, child));
    }

    TreePath pathOf(Tree t) {
        return trees.getPath(unit, t);
    }

    long lineOf(Tree t) {
        long start = trees.getSourcePositions().getStartPosition(unit, t);
        return start < 0 ? 0 : unit.getLineMap().getLineNumber(start);
    }

    long linesOf(Tree t) {
        long end = trees.getSourcePositions().getEndPosition(unit, t);
        return unit.getLineMap().getLineNumber(end) - lineOf(t) + 1;
    }
}

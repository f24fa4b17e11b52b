import com.sun.source.tree.CompilationUnitTree;
import com.sun.source.tree.Tree;
import com.sun.source.util.JavacTask;
import com.sun.source.util.TreePath;
import com.sun.source.util.Trees;
import java.io.IOException;
import java.nio.file.Path;
import java.util.List;
import javax.lang.model.element.Element;
import javax.lang.model.type.TypeMirror;
import javax.tools.JavaCompiler;
import javax.tools.StandardJavaFileManager;
import javax.tools.ToolProvider;

/** A source file as javac sees it: its tree, and what each name in it means. */
final class SourceCode {
    private final Trees trees;
    private final CompilationUnitTree unit;

    SourceCode(Path file) throws IOException {
        JavaCompiler compiler = ToolProvider.getSystemJavaCompiler();
        try (StandardJavaFileManager files = compiler.getStandardFileManager(null, null, null)) {
            JavacTask task = (JavacTask) compiler.getTask(null, files, null, List.of("--release", "17", "-proc:none"),
                null, files.getJavaFileObjects(file));
            unit = task.parse().iterator().next();
            task.analyze();
            trees = Trees.instance(task);
        }
    }

    CompilationUnitTree unit() {
        return unit;
    }

    Element meaningOf(TreePath path) {
        return trees.getElement(path);
    }

    TypeMirror typeOf(TreePath path) {
        return trees.getTypeMirror(path);
    }

    /** "World.isCold" of an own method, "java.lang.Math.min" of one of the library. */
    String nameOf(Element method) {
        Element owner = method.getEnclosingElement();
        String name = method.getSimpleName().contentEquals("<init>") ? "new" : method.getSimpleName().toString();
        return (owner + "." + name).replaceFirst("^GloveAbout\\.(?=.*\\.)", "");
    }

    long lineCount(Tree tree) {
        long first = unit.getLineMap().getLineNumber(trees.getSourcePositions().getStartPosition(unit, tree));
        return unit.getLineMap().getLineNumber(trees.getSourcePositions().getEndPosition(unit, tree)) - first + 1;
    }

    String placeOf(Tree tree) {
        return "line " + unit.getLineMap().getLineNumber(trees.getSourcePositions().getStartPosition(unit, tree));
    }
}

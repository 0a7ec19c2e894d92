import com.sun.source.tree.CompilationUnitTree;
import com.sun.source.util.JavacTask;
import com.sun.source.util.Trees;
import java.io.IOException;
import java.net.URI;
import java.util.List;
import javax.tools.Diagnostic;
import javax.tools.DiagnosticCollector;
import javax.tools.JavaCompiler;
import javax.tools.JavaFileObject;
import javax.tools.SimpleJavaFileObject;
import javax.tools.ToolProvider;

/** A source as the compiler reads it, with what its names and types are. */
final class SourceTree {
    final CompilationUnitTree unit;
    final Trees trees;
    final String text;

    private SourceTree(CompilationUnitTree unit, Trees trees, String text) {
        this.unit = unit;
        this.trees = trees;
        this.text = text;
    }

    static SourceTree of(String text) throws IOException {
        JavaCompiler compiler = ToolProvider.getSystemJavaCompiler();
        DiagnosticCollector<JavaFileObject> said = new DiagnosticCollector<>();
        JavacTask task = (JavacTask) compiler.getTask(null, null, said, List.of("--release", "17", "-proc:none"),
            null, List.of(new Text(text)));
        CompilationUnitTree unit = task.parse().iterator().next();
        task.analyze();
        for (Diagnostic<? extends JavaFileObject> each : said.getDiagnostics()) {
            if (each.getKind() == Diagnostic.Kind.ERROR) {
                throw new IllegalArgumentException(each.toString());
            }
        }
        return new SourceTree(unit, Trees.instance(task), text);
    }

    private static final class Text extends SimpleJavaFileObject {
        private final String text;

        Text(String text) {
            super(URI.create("string:///RampPermits.java"), Kind.SOURCE);
            this.text = text;
        }

        @Override
        public CharSequence getCharContent(boolean ignoreEncodingErrors) {
            return text;
        }
    }
}

import java.io.ByteArrayOutputStream;
import java.io.OutputStream;
import java.io.StringWriter;
import java.net.URI;
import java.util.List;
import java.util.Map;
import javax.tools.FileObject;
import javax.tools.ForwardingJavaFileManager;
import javax.tools.JavaCompiler;
import javax.tools.JavaFileManager;
import javax.tools.JavaFileObject;
import javax.tools.SimpleJavaFileObject;
import javax.tools.ToolProvider;

/** Compiles a text to classes in memory. */
final class JavaText {
    private static final JavaCompiler COMPILER = ToolProvider.getSystemJavaCompiler();
    /** One for each thread, and used again: to open one takes longer than to compile the program. */
    private static final ThreadLocal<JavaFileManager> FILES =
        ThreadLocal.withInitial(() -> COMPILER.getStandardFileManager(null, null, null));

    private JavaText() {
    }

    /** What the compiler said; empty, if the classes were made. */
    static String compile(String name, String code, Map<String, byte[]> classes) {
        StringWriter said = new StringWriter();
        JavaFileManager files = new MemoryFiles(FILES.get(), classes);
        List<JavaFileObject> units = List.of(new Source(name, code));
        boolean made = COMPILER.getTask(said, files, null, List.of("-proc:none"), null, units).call();
        return made ? "" : said.toString();
    }

    private static final class Source extends SimpleJavaFileObject {
        private final String code;

        Source(String name, String code) {
            super(URI.create("string:///" + name + ".java"), Kind.SOURCE);
            this.code = code;
        }

        @Override
        public CharSequence getCharContent(boolean ignoreEncodingErrors) {
            return code;
        }
    }

    private static final class MemoryFiles extends ForwardingJavaFileManager<JavaFileManager> {
        private final Map<String, byte[]> classes;

        MemoryFiles(JavaFileManager files, Map<String, byte[]> classes) {
            super(files);
            this.classes = classes;
        }

        @Override
        public JavaFileObject getJavaFileForOutput(Location at, String name, JavaFileObject.Kind kind, FileObject by) {
            return new SimpleJavaFileObject(URI.create("memory:///" + name.replace('$', '_')), kind) {
                @Override
                public OutputStream openOutputStream() {
                    return new ByteArrayOutputStream() {
                        @Override
                        public void close() {
                            classes.put(name, toByteArray());
                        }
                    };
                }
            };
        }
    }
}

import java.io.ByteArrayOutputStream;
import java.io.IOException;
import java.io.InputStream;
import java.io.OutputStream;
import java.net.URI;
import java.util.HashMap;
import java.util.List;
import java.util.Map;
import javax.tools.DiagnosticCollector;
import javax.tools.FileObject;
import javax.tools.ForwardingJavaFileManager;
import javax.tools.JavaCompiler;
import javax.tools.JavaFileManager;
import javax.tools.JavaFileObject;
import javax.tools.SimpleJavaFileObject;
import javax.tools.ToolProvider;

/**
 * A source that was compiled in memory, with test classes loaded anew beside it: they see its
 * classes and not those of the same name on the class path, and share no static state with others.
 */
final class Compiled extends ClassLoader {
    private final Map<String, ByteArrayOutputStream> made = new HashMap<>();

    private Compiled() {
        super(ClassLoader.getPlatformClassLoader());
    }

    static Compiled of(String name, String source) {
        JavaCompiler compiler = ToolProvider.getSystemJavaCompiler();
        if (compiler == null) {
            throw new IllegalStateException("no compiler: java must be the one of a JDK");
        }
        Compiled compiled = new Compiled();
        DiagnosticCollector<JavaFileObject> said = new DiagnosticCollector<>();
        List<String> options = List.of("-proc:none", "-classpath", System.getProperty("java.class.path"));
        JavaFileManager files = compiled.new Files(compiler.getStandardFileManager(said, null, null));
        if (!compiler.getTask(null, files, said, options, null, List.of(new Source(name, source))).call()) {
            throw new IllegalStateException(name + " can't be compiled: " + said.getDiagnostics());
        }
        return compiled;
    }

    @Override
    protected Class<?> findClass(String name) throws ClassNotFoundException {
        try {
            byte[] code = made.containsKey(name) ? made.get(name).toByteArray() : besides(name);
            return defineClass(name, code, 0, code.length);
        } catch (IOException e) {
            throw new ClassNotFoundException(name, e);
        }
    }

    private static byte[] besides(String name) throws IOException, ClassNotFoundException {
        try (InputStream in = ClassLoader.getSystemResourceAsStream(name + ".class")) {
            if (in == null) {
                throw new ClassNotFoundException(name);
            }
            return in.readAllBytes();
        }
    }

    private static final class Source extends SimpleJavaFileObject {
        private final String text;

        Source(String name, String text) {
            super(URI.create("string:///" + name + ".java"), Kind.SOURCE);
            this.text = text;
        }

        @Override
        public CharSequence getCharContent(boolean ignoreEncodingErrors) {
            return text;
        }
    }

    /** Keeps the classes that the compiler makes. */
    private final class Files extends ForwardingJavaFileManager<JavaFileManager> {
        Files(JavaFileManager others) {
            super(others);
        }

        @Override
        public JavaFileObject getJavaFileForOutput(Location location, String name, JavaFileObject.Kind kind,
                FileObject sibling) {
            return new SimpleJavaFileObject(URI.create("mem:///" + name + ".class"), kind) {
                @Override
                public OutputStream openOutputStream() {
                    ByteArrayOutputStream code = new ByteArrayOutputStream();
                    made.put(name, code);
                    return code;
                }
            };
        }
    }
}

import java.io.ByteArrayOutputStream;
import java.io.OutputStream;
import java.net.URI;
import java.util.HashMap;
import java.util.List;
import java.util.Map;
import javax.tools.FileObject;
import javax.tools.ForwardingJavaFileManager;
import javax.tools.JavaCompiler;
import javax.tools.JavaFileManager;
import javax.tools.JavaFileObject;
import javax.tools.SimpleJavaFileObject;
import javax.tools.StandardJavaFileManager;
import javax.tools.ToolProvider;

/** The classes of a copy of the program, compiled without a file. */
final class Compiled extends ClassLoader {
    private final Map<String, ByteArrayOutputStream> classes = new HashMap<>();
    private final boolean isWhole;

    Compiled(String source) {
        super(ClassLoader.getPlatformClassLoader());
        JavaCompiler compiler = ToolProvider.getSystemJavaCompiler();
        StandardJavaFileManager files = compiler.getStandardFileManager(null, null, null);
        JavaFileManager kept = new ForwardingJavaFileManager<>(files) {
            @Override
            public JavaFileObject getJavaFileForOutput(Location in, String name, JavaFileObject.Kind kind, FileObject beside) {
                return new SimpleJavaFileObject(URI.create("bytes:///" + name), kind) {
                    @Override
                    public OutputStream openOutputStream() {
                        return classes.computeIfAbsent(name, ignored -> new ByteArrayOutputStream());
                    }
                };
            }
        };
        isWhole = compiler.getTask(null, kept, null, List.of("-proc:none"), null, List.of(asFile(source))).call();
    }

    static JavaFileObject asFile(String source) {
        return new SimpleJavaFileObject(URI.create("string:///Exactdoubles.java"), JavaFileObject.Kind.SOURCE) {
            @Override
            public CharSequence getCharContent(boolean ignored) {
                return source;
            }
        };
    }

    boolean isWhole() {
        return isWhole;
    }

    @Override
    protected Class<?> findClass(String name) throws ClassNotFoundException {
        ByteArrayOutputStream bytes = classes.get(name);
        if (bytes == null) {
            throw new ClassNotFoundException(name);
        }
        return defineClass(name, bytes.toByteArray(), 0, bytes.size());
    }
}

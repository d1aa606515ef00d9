import java.io.ByteArrayOutputStream;
import java.io.OutputStream;
import java.net.URI;
import java.net.URL;
import java.net.URLClassLoader;
import java.nio.file.Path;
import java.util.HashMap;
import java.util.List;
import java.util.Map;
import javax.tools.FileObject;
import javax.tools.ForwardingJavaFileManager;
import javax.tools.JavaCompiler;
import javax.tools.JavaFileManager;
import javax.tools.JavaFileObject;
import javax.tools.SimpleJavaFileObject;
import javax.tools.ToolProvider;

/**
 * A source that was compiled in memory, together with the classes of the tests, which are loaded anew:
 * where both have a class, the compiled one counts, and nothing static is shared.
 */
final class Compiled extends URLClassLoader {
    private static final URL TESTS = Compiled.class.getProtectionDomain().getCodeSource().getLocation();
    private static final JavaCompiler COMPILER = ToolProvider.getSystemJavaCompiler();

    private final Map<String, byte[]> classes;

    private Compiled(Map<String, byte[]> classes) {
        super(new URL[] {TESTS}, ClassLoader.getPlatformClassLoader());
        this.classes = classes;
    }

    /** Null if it does not compile. */
    static Compiled of(String name, String source) {
        if (COMPILER == null) {
            throw new IllegalStateException("there is no compiler here");
        }
        Map<String, ByteArrayOutputStream> written = new HashMap<>();
        JavaFileObject file = new SimpleJavaFileObject(URI.create("string:///" + name + ".java"), JavaFileObject.Kind.SOURCE) {
            @Override
            public CharSequence getCharContent(boolean ignored) {
                return source;
            }
        };
        List<String> options = List.of("-cp", Path.of(URI.create(TESTS.toString())).toString());
        if (!COMPILER.getTask(null, inMemory(written), any -> { }, options, null, List.of(file)).call()) {
            return null;
        }
        Map<String, byte[]> classes = new HashMap<>();
        written.forEach((each, bytes) -> classes.put(each, bytes.toByteArray()));
        return new Compiled(classes);
    }

    private static JavaFileManager inMemory(Map<String, ByteArrayOutputStream> written) {
        return new ForwardingJavaFileManager<JavaFileManager>(COMPILER.getStandardFileManager(any -> { }, null, null)) {
            @Override
            public JavaFileObject getJavaFileForOutput(Location place, String name, JavaFileObject.Kind kind, FileObject near) {
                return new SimpleJavaFileObject(URI.create("memory:///" + name + ".class"), kind) {
                    @Override
                    public OutputStream openOutputStream() {
                        ByteArrayOutputStream bytes = new ByteArrayOutputStream();
                        written.put(name, bytes);
                        return bytes;
                    }
                };
            }
        };
    }

    @Override
    protected Class<?> findClass(String name) throws ClassNotFoundException {
        byte[] code = classes.get(name);
        return code == null ? super.findClass(name) : defineClass(name, code, 0, code.length);
    }
}

import java.io.ByteArrayOutputStream;
import java.io.IOException;
import java.io.PrintStream;
import java.lang.reflect.Method;
import java.lang.reflect.Modifier;
import java.net.URL;
import java.net.URLClassLoader;
import java.nio.charset.StandardCharsets;
import java.nio.file.Files;
import java.nio.file.Path;
import java.util.Comparator;
import java.util.List;
import java.util.stream.Collectors;
import java.util.stream.Stream;
import javax.tools.ToolProvider;

/** README.md: its example compiles and prints what stands under it, and every call of the face and every test is told. */
public final class ReadmeTest {
    private static final Path README = Path.of("README.md");
    private static final Path PROGRAM = Path.of("src/main/java/PeerScripts.java");

    public static void main(String[] args) throws Exception {
        String readme = Files.readString(README).replace("\r\n", "\n");
        String example = block(readme, "java");
        for (Method method : PeerScripts.class.getDeclaredMethods()) {
            if (Modifier.isPublic(method.getModifiers())) {
                String name = method.getName();
                Check.same(name + " is told", readme.contains("`" + name + "("), true);
                Check.same(name + " is used", example.contains("x." + name + "("), true);
            }
        }
        Path folder = Files.createTempDirectory("readme");
        try {
            Check.same("what the example prints", printed(folder, example), block(readme, "text"));
        } finally {
            delete(folder);
        }
        for (Path test : tests()) {
            Check.same(test + " is told", readme.contains("`" + test.toString().replace('\\', '/') + "`"), true);
        }
        Check.end();
    }

    /** The lines between the first fence of this kind and the one that closes it. */
    private static String block(String readme, String kind) {
        String fence = "\n```" + kind + "\n";
        int start = readme.indexOf(fence);
        int end = start < 0 ? -1 : readme.indexOf("\n```\n", start + fence.length());
        Check.same("there is a block of " + kind, end >= 0, true);
        return end < 0 ? "" : readme.substring(start + fence.length(), end + 1);
    }

    private static String printed(Path folder, String example) throws Exception {
        Path file = Files.writeString(folder.resolve("Example.java"), example);
        int code = ToolProvider.getSystemJavaCompiler().run(null, null, null, "-Xlint:all", "-Werror",
            "-d", folder.toString(), PROGRAM.toString(), file.toString());
        Check.same("javac of the example", code, 0);
        ByteArrayOutputStream bytes = new ByteArrayOutputStream();
        PrintStream before = System.out;
        // The loader has no parent, so that the class that was compiled with the example is the one that it uses.
        try (URLClassLoader loader = new URLClassLoader(new URL[] {folder.toUri().toURL()}, null);
             PrintStream caught = new PrintStream(bytes, true, StandardCharsets.UTF_8)) {
            System.setOut(caught);
            loader.loadClass("Example").getMethod("main", String[].class).invoke(null, (Object) new String[0]);
        } finally {
            System.setOut(before);
        }
        return bytes.toString(StandardCharsets.UTF_8).replace(System.lineSeparator(), "\n");
    }

    private static List<Path> tests() throws IOException {
        try (Stream<Path> files = Files.list(Path.of("src/test/java"))) {
            return files.filter(file -> file.toString().endsWith("Test.java")).sorted().collect(Collectors.toList());
        }
    }

    private static void delete(Path folder) throws IOException {
        try (Stream<Path> files = Files.walk(folder)) {
            for (Path file : files.sorted(Comparator.reverseOrder()).collect(Collectors.toList())) {
                Files.delete(file);
            }
        }
    }
}

import java.io.ByteArrayOutputStream;
import java.io.File;
import java.io.IOException;
import java.io.PrintStream;
import java.net.URL;
import java.net.URLClassLoader;
import java.nio.charset.StandardCharsets;
import java.nio.file.Files;
import java.nio.file.Path;
import javax.tools.ToolProvider;

/** The program in README.md compiles, and prints what README.md says. Started from the folder of README.md. */
public final class ReadmeTest {
    private static final Checks checks = new Checks();

    /** What stands between the fences of the first block of this kind. */
    private static String block(String readme, String kind) {
        String open = "```" + kind + "\n";
        int from = readme.indexOf(open);
        int to = from < 0 ? -1 : readme.indexOf("```", from + open.length());
        return to < 0 ? "" : readme.substring(from + open.length(), to);
    }

    private static int compile(Path folder, Path source) {
        return ToolProvider.getSystemJavaCompiler().run(null, null, null, "-encoding", "UTF-8", "-d",
                folder.toString(), new File("src/main/java/SnowFences.java").getPath(), source.toString());
    }

    private static String printed(Path folder) throws IOException, ReflectiveOperationException {
        PrintStream before = System.out;
        ByteArrayOutputStream said = new ByteArrayOutputStream();
        // Without a parent of the test's own classes, so that only what was compiled here is used.
        ClassLoader bare = ClassLoader.getPlatformClassLoader();
        try (URLClassLoader loader = new URLClassLoader(new URL[] {folder.toUri().toURL()}, bare)) {
            System.setOut(new PrintStream(said, true, StandardCharsets.UTF_8));
            loader.loadClass("Example").getMethod("main", String[].class).invoke(null, (Object) new String[0]);
        } finally {
            System.setOut(before);
        }
        return said.toString(StandardCharsets.UTF_8).replace(System.lineSeparator(), "\n");
    }

    private static void remove(Path folder) throws IOException {
        File[] files = folder.toFile().listFiles();
        for (File file : files == null ? new File[0] : files) {
            Files.delete(file.toPath());
        }
        Files.delete(folder);
    }

    public static void main(String[] args) throws IOException, ReflectiveOperationException {
        String readme = Files.readString(Path.of("README.md"));
        Path folder = Files.createTempDirectory("readme");
        try {
            Path source = Files.writeString(folder.resolve("Example.java"), block(readme, "java"));
            int code = compile(folder, source);
            checks.due("README.md's program compiles", 0, () -> code);
            if (code == 0) {
                String printed = printed(folder);
                checks.due("README.md's program prints", block(readme, "text"), () -> printed);
            }
        } finally {
            remove(folder);
        }
        checks.end();
    }
}

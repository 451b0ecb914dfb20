import java.io.ByteArrayOutputStream;
import java.io.PrintStream;
import java.net.URL;
import java.net.URLClassLoader;
import java.nio.charset.StandardCharsets;
import java.nio.file.Files;
import java.nio.file.Path;
import javax.tools.ToolProvider;

/** README.md's example compiles and prints what README.md says that it prints. */
public final class ReadmeTest {
    public static void main(String[] args) throws Exception {
        Check check = new Check();
        String readme = Files.readString(Path.of("README.md"));
        Path folder = Files.createTempDirectory("readme");
        Path source = folder.resolve("Example.java");
        try {
            Files.writeString(source, block(readme, "java"));
            int failed = ToolProvider.getSystemJavaCompiler().run(null, null, null, "--release", "17",
                    "-cp", System.getProperty("java.class.path"), "-d", folder.toString(), source.toString());
            check.due("javac of README.md's example", failed, 0);
            if (failed == 0) {
                check.same("README.md's example", printedBy(folder), block(readme, "text"));
            }
        } finally {
            Files.deleteIfExists(source);
            Files.deleteIfExists(folder.resolve("Example.class"));
            Files.deleteIfExists(folder);
        }
        check.finish();
    }

    /** The lines of the first block of a kind; a README.md without one has none. */
    private static String block(String readme, String kind) {
        String opening = "```" + kind + "\n";
        int begin = readme.indexOf(opening);
        if (begin < 0) {
            return "";
        }
        int inside = begin + opening.length();
        return readme.substring(inside, readme.indexOf("```", inside));
    }

    private static String printedBy(Path folder) throws Exception {
        ByteArrayOutputStream printed = new ByteArrayOutputStream();
        PrintStream before = System.out;
        try (URLClassLoader loader = new URLClassLoader(new URL[] {folder.toUri().toURL()})) {
            System.setOut(new PrintStream(printed, true, StandardCharsets.UTF_8));
            loader.loadClass("Example").getMethod("main", String[].class)
                    .invoke(null, (Object) new String[0]);
        } finally {
            System.setOut(before);
        }
        return printed.toString(StandardCharsets.UTF_8);
    }
}

import java.io.ByteArrayOutputStream;
import java.io.IOException;
import java.io.PrintStream;
import java.lang.reflect.Method;
import java.lang.reflect.Modifier;
import java.net.URL;
import java.net.URLClassLoader;
import java.nio.file.DirectoryStream;
import java.nio.file.Files;
import java.nio.file.Path;
import javax.tools.JavaCompiler;
import javax.tools.ToolProvider;

/** README.md: its example prints what it says, and no call and no test is left out. */
final class ReadmeTest {
    private static final Saying SAY = new Saying();

    private ReadmeTest() { }

    public static void main(String[] args) throws Exception {
        String page = Files.readString(Path.of("README.md"));
        for (Method m : RiverVows.class.getDeclaredMethods()) {
            if (Modifier.isPublic(m.getModifiers())) {
                SAY.due("README.md names " + m.getName(), page.contains("`" + m.getName() + "`"), true);
            }
        }
        try (DirectoryStream<Path> tests = Files.newDirectoryStream(Path.of("src/test/java"), "*Test.java")) {
            for (Path test : tests) {
                String name = test.getFileName().toString().replace(".java", "");
                SAY.due("README.md names " + name, page.contains("| `" + name + "` |"), true);
            }
        }
        SAY.due("README.md tells of .ci/run", page.contains("`bash .ci/run`"), true);
        SAY.due("the example", printed(block(page, "```java\n")), block(page, "```text\n"));
        SAY.end("ReadmeTest");
    }

    private static String block(String page, String opening) {
        int start = page.indexOf(opening);
        int end = page.indexOf("```", start + opening.length());
        return start < 0 || end < 0 ? "" : page.substring(start + opening.length(), end);
    }

    /** What the example prints when it is compiled with the class and run. */
    private static String printed(String example) throws Exception {
        Path folder = Files.createTempDirectory("readme");
        Path source = Files.writeString(folder.resolve("Example.java"), example);
        PrintStream usual = System.out;
        ByteArrayOutputStream bytes = new ByteArrayOutputStream();
        try {
            JavaCompiler javac = ToolProvider.getSystemJavaCompiler();
            int wrong = javac.run(null, null, null, "-d", folder.toString(),
                    "-cp", System.getProperty("java.class.path"), source.toString());
            if (wrong != 0) {
                return "it does not compile";
            }
            System.setOut(new PrintStream(bytes, true));
            try (URLClassLoader loader = new URLClassLoader(new URL[] {folder.toUri().toURL()})) {
                Class<?> it = loader.loadClass("Example");
                it.getMethod("main", String[].class).invoke(null, (Object) new String[0]);
            }
        } finally {
            System.setOut(usual);
            deleteAll(folder);
        }
        return bytes.toString().replace("\r\n", "\n");
    }

    private static void deleteAll(Path folder) throws IOException {
        try (DirectoryStream<Path> files = Files.newDirectoryStream(folder)) {
            for (Path file : files) {
                Files.delete(file);
            }
        }
        Files.delete(folder);
    }
}

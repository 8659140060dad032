import java.io.File;
import java.nio.file.Files;
import java.nio.file.Path;

/** The example in README.md can be followed: it compiles, and prints what stands there. */
public final class ReadmeTest {
    private static final String BEGINNING = "public class Example";

    public static void main(String[] args) throws Exception {
        String readme = Files.readString(Path.of("README.md")).replace("\r\n", "\n");
        Path folder = Files.createTempDirectory("readme");
        Path source = folder.resolve("Example.java");
        Files.writeString(source, BEGINNING + block(readme, "```java\n" + BEGINNING));
        String classes = System.getProperty("java.class.path");
        printed("javac", "-d", folder.toString(), "-cp", classes, source.toString());
        Bench.due("the example", printed("java", "-cp", classes + File.pathSeparator + folder, "Example"), block(readme, "```text\n"));
        Files.deleteIfExists(folder.resolve("Example.class"));
        Files.delete(source);
        Files.delete(folder);
        Bench.end();
    }

    /** What stands behind that beginning, up to the end of its block. */
    private static String block(String readme, String beginning) {
        int from = readme.indexOf(beginning) + beginning.length();
        return readme.substring(from, readme.indexOf("```", from));
    }

    private static String printed(String... command) throws Exception {
        Process process = new ProcessBuilder(command).redirectError(ProcessBuilder.Redirect.INHERIT).start();
        String seen = new String(process.getInputStream().readAllBytes());
        Bench.due("exit code of " + command[0], process.waitFor(), 0);
        return seen.replace("\r\n", "\n");
    }
}

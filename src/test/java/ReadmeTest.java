import java.io.IOException;
import java.lang.reflect.Method;
import java.nio.charset.StandardCharsets;
import java.nio.file.Files;
import java.nio.file.Path;

/** The example of README.md, compiled as it stands there, has to print what stands behind it there. */
public final class ReadmeTest {
    public static void main(String[] args) throws IOException, InterruptedException {
        String page = Files.readString(Path.of("README.md"));
        PromiseCheck.due("what the example prints", block(page, "text"), printed(block(page, "java")));
        for (Method call : Polyloom.class.getMethods()) {
            if (call.getDeclaringClass() == Polyloom.class) {
                PromiseCheck.due("the page tells of " + call.getName(), true, page.contains("`" + call.getName()));
            }
        }
        for (char step : "xrstcdn".toCharArray()) {
            PromiseCheck.due("the page tells of the step " + step, true, page.contains("`script('" + step + "'"));
        }
        filesAreNamed(page);
        PromiseCheck.end("ReadmeTest");
    }

    /** What stands between the fences of the first block of a language. */
    private static String block(String page, String language) {
        int begin = page.indexOf("```" + language + "\n");
        int end = begin < 0 ? -1 : page.indexOf("\n```\n", begin);
        return end < 0 ? "" : page.substring(page.indexOf('\n', begin) + 1, end + 1);
    }

    private static String printed(String program) throws IOException, InterruptedException {
        Path work = Files.createTempDirectory("readme");
        Path file = work.resolve("Example.java");
        String classes = System.getProperty("java.class.path") + System.getProperty("path.separator") + work;
        try {
            Files.writeString(file, program);
            String refused = told("javac", "-cp", classes, "-d", work.toString(), file.toString());
            return refused.isEmpty() ? told("java", "-cp", classes, "Example") : refused;
        } finally {
            Files.deleteIfExists(file);
            Files.deleteIfExists(work.resolve("Example.class"));
            Files.deleteIfExists(work);
        }
    }

    /** What a command prints; what it complains of goes where ours goes. */
    private static String told(String... command) throws IOException, InterruptedException {
        Process process = new ProcessBuilder(command).redirectError(ProcessBuilder.Redirect.INHERIT).start();
        String text = new String(process.getInputStream().readAllBytes(), StandardCharsets.UTF_8);
        int end = process.waitFor();
        return (end == 0 ? text : "ended with " + end + ": " + text).replace(System.lineSeparator(), "\n");
    }

    /** Each test that there is stands in the table of tests, so that it can be found and run by its name. */
    private static void filesAreNamed(String page) {
        String[] files = Path.of("src/test/java").toFile().list();
        PromiseCheck.due("tests are there", true, files != null && files.length > 0);
        for (String file : files == null ? new String[0] : files) {
            String name = file.replace(".java", "");
            if (!name.endsWith("Check")) {
                PromiseCheck.due("the page names " + name, true, page.contains("`" + name + "`"));
            }
        }
    }
}

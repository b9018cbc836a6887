import java.io.File;
import java.io.IOException;
import java.nio.file.Files;
import java.nio.file.Path;

/**
 * The script .ci/run, tried on small projects made for it: it passes one where every test passes, and fails each that
 * differs from it by one file.
 */
public final class CiTest {
    private static final Path SCRIPT = Path.of(".ci/run");
    private static final Checks CHECKS = new Checks("CiTest");

    private final Path folder;
    private int projects;

    private CiTest(Path folder) {
        this.folder = folder;
    }

    public static void main(String[] args) throws IOException, InterruptedException {
        CHECKS.due(".ci/run can be executed", Files.isExecutable(SCRIPT), true);
        Path folder = Files.createTempDirectory("ci");
        try {
            new CiTest(folder).tryProjects();
        } finally {
            delete(folder.toFile());
        }
        CHECKS.end();
    }

    private void tryProjects() throws IOException, InterruptedException {
        String wrong = "System.exit(1);";
        String further = "shared/tests/Further.java";
        passes(true, "two right shared tests", further, test("Further", ""));
        passes(false, "a wrong shared test", further, test("Further", wrong));
        passes(false, "a wrong shared test in a folder", "shared/tests/a folder/in one/Further.java",
                test("Further", wrong));
        passes(false, "a wrong shared test of a name taken", "shared/tests/more/Runs.java", test("Runs", wrong));
        passes(false, "a shared test that throws", further, test("Further", "Integer.parseInt(\"\");"));
        passes(false, "a shared test that is no Java", further, "no Java");
        passes(false, "no shared test", "shared/tests/Runs.java", null);
        passes(false, "a wrong test of its own", "main/src/test/java/OneTest.java", test("OneTest", wrong));
        passes(false, "a helper that is no Java", "main/src/test/java/Helper.java", "no Java");
        passes(false, "a class that is no Java", "main/src/main/java/Buildlots.java", "no Java");
    }

    /** Tries the project where every test passes, but for this one file, which it lacks where the text is null. */
    private void passes(boolean want, String title, String file, String text)
            throws IOException, InterruptedException {
        Path project = folder.resolve("project" + projects++);
        write(project.resolve("main/.ci/run"), Files.readString(SCRIPT));
        write(project.resolve("main/src/main/java/Buildlots.java"), "public final class Buildlots { }");
        write(project.resolve("main/src/test/java/OneTest.java"), test("OneTest", ""));
        write(project.resolve("shared/tests/Runs.java"), test("Runs", ""));
        if (text == null) {
            Files.delete(project.resolve(file));
        } else {
            write(project.resolve(file), text);
        }
        ProcessBuilder run = new ProcessBuilder("bash", project.resolve("main/.ci/run").toString());
        run.redirectErrorStream(true).redirectOutput(ProcessBuilder.Redirect.DISCARD);
        CHECKS.due(".ci/run passes a project with " + title, run.start().waitFor() == 0, want);
    }

    private static String test(String name, String last) {
        return "public class " + name + " { public static void main(String[] a) { new Buildlots(); " + last + " } }";
    }

    private static void write(Path file, String text) throws IOException {
        Files.createDirectories(file.getParent());
        Files.writeString(file, text);
    }

    private static void delete(File file) {
        File[] inside = file.listFiles();
        if (inside != null) {
            for (File one : inside) {
                delete(one);
            }
        }
        file.delete();
    }
}

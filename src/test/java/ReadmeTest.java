import java.io.IOException;
import java.lang.reflect.Method;
import java.lang.reflect.Modifier;
import java.nio.file.Files;
import java.nio.file.Path;
import java.util.Iterator;
import java.util.List;

/** The example of README.md answers what it says there, and README.md names every call of the face. */
public final class ReadmeTest {
    private static final Checks CHECKS = new Checks("ReadmeTest");

    private final Iterator<String> example;

    private ReadmeTest(List<String> readme) {
        int start = readme.indexOf("```java") + 1;
        int length = readme.subList(start, readme.size()).indexOf("```");
        example = readme.subList(start, start + length).iterator();
    }

    public static void main(String[] args) throws IOException {
        List<String> readme = Files.readAllLines(Path.of("README.md"));
        new ReadmeTest(readme).runExample();
        String text = String.join("\n", readme);
        for (Method method : Buildlots.class.getDeclaredMethods()) {
            if (Modifier.isPublic(method.getModifiers())) {
                String name = "`" + method.getName() + "`";
                CHECKS.due("README.md names " + name, text.contains(name), true);
            }
        }
        CHECKS.end();
    }

    private void runExample() {
        Buildlots line = new Buildlots();
        made("Buildlots line = new Buildlots()", 0, 0);
        int key = line.addKey(0, 0, 30);
        made("int key = line.addKey(0, 0, 30)", key, 0);
        int other = line.addKey(1, 0, 30);
        made("int other = line.addKey(1, 0, 30)", other, 1);
        int library = line.build(0, 0, 77);
        made("int library = line.build(0, 0, 77)", library, 0);
        int tool = line.build(1, 1, 78);
        made("int tool = line.build(1, 1, 78)", tool, 1);
        answered("line.attest(library, key)", line.attest(library, key) + "");
        answered("line.attest(library, other)", line.attest(library, other) + "");
        answered("line.isTrusted(library)", line.isTrusted(library) + "");
        answered("line.newest(0)", line.newest(0) + "");
        int mirror = line.addMirror();
        made("int mirror = line.addMirror()", mirror, 0);
        answered("line.update(mirror)", line.update(mirror) + "");
        answered("line.recall(library)", line.recall(library) + "");
        answered("line.install(mirror, 0)", line.install(mirror, 0) + "");
        answered("line.rebuild(tool, 79)", line.rebuild(tool, 79) + "");
        answered("line.share(tool)", line.share(tool) + "f");
        answered("line.pass(31)", line.pass(31) + "");
        answered("line.isExpired(mirror)", line.isExpired(mirror) + "");
        CHECKS.due("a line of the example that was not run", example.hasNext() ? example.next() : "none", "none");
    }

    /** The next line of the example is this one, whatever its comment says. */
    private void made(String code, int got, int want) {
        CHECKS.due(code, got, want);
        CHECKS.due("the next line of the example", next().replaceFirst(";.*", ""), code);
    }

    /** The next line of the example is this one, and its comment is this answer or begins with it and a colon. */
    private void answered(String code, String got) {
        CHECKS.due("the next line of the example", next().replaceFirst("; *// *", "; // ").replaceFirst(":.*", ""),
                code + "; // " + got);
    }

    private String next() {
        return example.hasNext() ? example.next() : "no line";
    }
}

import java.io.IOException;
import java.nio.file.Path;
import java.util.List;
import java.util.Map;

/**
 * Every sentence of promises 1 to 33 and of the terms that names a boundary case has checks of its own here; a
 * sentence of the document without checks counts as wrong, and so does a quotation that the document does not hold.
 */
public final class BoundsTest {
    /** Sentences of the terms that name no boundary case. */
    private static final List<String> WITHOUT_BOUNDARY = List.of(
            Document.quote(Document.TERMS, "Builds are made from other builds, signers attest them with keys that have"
                    + " spans and can be lost, a build is trusted while live keys of enough weight vouch for it,"
                    + " recalls follow inputs, mirrors lag and their lists expire, clients install the newest build"
                    + " that they may, and rebuilders compare results."),
            Document.quote(Document.TERMS, "The class is not thread-safe."));

    public static void main(String[] args) throws IOException {
        Checks checks = new Checks("BoundsTest");
        TermBounds.check(checks);
        RefusalBounds.check(checks);
        KeyBounds.check(checks);
        BuildBounds.check(checks);
        TrustBounds.check(checks);
        RecallBounds.check(checks);
        MirrorBounds.check(checks);
        compare(checks, new Document(Path.of("../shared/DOC.md")));
        checks.end();
    }

    private static void compare(Checks checks, Document document) {
        Map<String, Integer> tested = Map.copyOf(checks.checksBySentence());
        checks.promise(0);
        for (String quote : tested.keySet()) {
            checks.due("a sentence of the document: " + quote, document.holds(quote), true);
        }
        for (String quote : document.quotesThatNeedTests()) {
            boolean covered = tested.getOrDefault(quote, 0) > 0 || WITHOUT_BOUNDARY.contains(quote);
            checks.due("checks of its own for " + quote, covered, true);
        }
    }
}

import java.util.function.Consumer;
import java.util.function.Function;

/**
 * What can be seen of a line, as a text: several series of calls, each on a line of its own that a scene makes.
 * A series may change its line, to show what no question tells.
 */
final class Trace {
    // beyond the 512th call the document promises nothing, and scenes take up to 210 of them
    private static final int MOST_CALLS = 300;
    private static final int SIGNERS = 4;
    private static final int NAMES = 5;

    private final Buildlots line;
    private final StringBuilder text;
    private int calls;
    private int keys;
    private int builds;
    private int mirrors;

    private Trace(Buildlots line, StringBuilder text) {
        this.line = line;
        this.text = text;
    }

    static String of(Consumer<Buildlots> scene) {
        StringBuilder text = new StringBuilder();
        on(scene, text).questions();
        on(scene, text).vouchers();
        on(scene, text).settings();
        on(scene, text).attestations();
        on(scene, text).days();
        on(scene, text).results();
        return text.toString();
    }

    private static Trace on(Consumer<Buildlots> scene, StringBuilder text) {
        Buildlots line = new Buildlots();
        scene.accept(line);
        Trace trace = new Trace(line, text);
        trace.keys = trace.askWhileThere("isLive", 9, (x, key) -> x.isLive(key));
        trace.builds = trace.askWhileThere("nameOf", 25, (x, build) -> x.nameOf(build));
        trace.mirrors = trace.askWhileThere("isExpired", 4, (x, mirror) -> x.isExpired(mirror));
        return trace;
    }

    private void questions() {
        ask("day", x -> x.day());
        ask("scoreSumBits", x -> x.scoreSumBits());
        askEach("hangsOnKey", keys, (x, key) -> x.hangsOnKey(key));
        askEach("version", builds, (x, build) -> x.version(build));
        askEach("used", builds, (x, build) -> x.used(build));
        askEach("scoreBits", builds, (x, build) -> x.scoreBits(build));
        askEach("isTrusted", builds, (x, build) -> x.isTrusted(build));
        askEach("isRecalled", builds, (x, build) -> x.isRecalled(build));
        askEach("share", builds, (x, build) -> x.share(build));
        askEach("newest", NAMES, (x, name) -> x.newest(name));
        for (int mirror = 0; mirror < mirrors; mirror++) {
            int one = mirror;
            askEach("install " + mirror, NAMES, (x, name) -> x.install(one, name));
        }
    }

    private void vouchers() {
        for (int build = 0; build < builds; build++) {
            int one = build;
            askEach("vouches " + build, SIGNERS, (x, signer) -> x.vouches(one, signer));
        }
    }

    private void settings() {
        askEach("setWeight", SIGNERS, (x, signer) -> x.setWeight(signer, 50));
        askEach("setThreshold", NAMES, (x, name) -> x.setThreshold(name, 100));
        ask("setExpiry", x -> x.setExpiry(0));
        askEach("extendKey", keys, (x, key) -> x.extendKey(key, 999));
        askEach("loseKey", keys, (x, key) -> x.loseKey(key));
        askEach("lift", builds, (x, build) -> x.lift(build));
        askEach("update", mirrors, (x, mirror) -> x.update(mirror));
        ask("addKey", x -> x.addKey(0, x.day(), 999));
        ask("build", x -> x.build(0, 0, 7));
        ask("version", x -> x.version(builds));
        ask("addMirror", x -> x.addMirror());
        ask("pass", x -> x.pass(1));
    }

    /** The number of attestations of a build is only told by a further one. */
    private void attestations() {
        askEach("lift", builds, (x, build) -> x.lift(build));
        ask("addKey", x -> x.addKey(0, x.day(), 999));
        for (int build = 0; build < builds; build++) {
            int one = build;
            askEach("attest " + build, Math.min(8, keys + 1), (x, key) -> x.attest(one, key));
        }
    }

    private void days() {
        for (int day = 0; day < 18; day++) {
            ask("pass", x -> x.pass(1));
            askEach("isLive", keys, (x, key) -> x.isLive(key));
            askEach("isExpired", mirrors, (x, mirror) -> x.isExpired(mirror));
        }
    }

    /** How many results were told for a build shows when there is no room for more. */
    private void results() {
        for (int build = 0; build < builds; build += Math.max(1, builds - 1)) {
            int one = build;
            for (int told = 0; told < 100; told++) {
                if (isRefusal(ask("rebuild " + build, x -> x.rebuild(one, 7)))) {
                    break;
                }
            }
            ask("share " + build, x -> x.share(one));
        }
    }

    static boolean isRefusal(Object answer) {
        return answer.toString().startsWith("throws");
    }

    private Object ask(String call, Function<Buildlots, Object> question) {
        Object got = Checks.answer(line, question);
        text.append(call).append('=').append(got).append(' ');
        if (++calls > MOST_CALLS) {
            throw new AssertionError("too many calls to trace");
        }
        return got;
    }

    private void askEach(String call, int count, Checks.Numbered question) {
        for (int number = 0; number < count; number++) {
            int one = number;
            ask(call + " " + number, x -> question.on(x, one));
        }
    }

    private int askWhileThere(String call, int bound, Checks.Numbered question) {
        for (int number = 0; number < bound; number++) {
            int one = number;
            if (isRefusal(ask(call + " " + number, x -> question.on(x, one)))) {
                return number;
            }
        }
        return bound;
    }
}

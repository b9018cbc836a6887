import java.util.ArrayList;
import java.util.List;
import java.util.function.Consumer;
import java.util.function.Function;

/** Counts answers that are not due, and tells each of them. */
final class Checks {
    private static final int MOST_CALLS = 512;
    private static final int[] SIGNERS = {0, 1, 2, 3};
    private static final int[] NAMES = {0, 1, 2, 3, 4};

    private final String title;
    private int promise;
    private int checks;
    private int wrong;

    Checks(String title) {
        this.title = title;
    }

    void promise(int number) {
        promise = number;
    }

    void due(String call, Object got, Object want) {
        checks++;
        if (!want.equals(got)) {
            wrong++;
            System.out.println(title + ", promise " + promise + ": " + call + " answered " + got + ", due is " + want);
        }
    }

    /** The call must throw exactly this exception on the line that the scene makes, and leave no trace in it. */
    void refuses(Class<? extends RuntimeException> exception, String call, Consumer<Buildlots> scene,
            Function<Buildlots, Object> doomed) {
        Buildlots tried = new Buildlots();
        scene.accept(tried);
        due(call, answer(tried, doomed), "throws " + exception.getName());
        Buildlots untried = new Buildlots();
        scene.accept(untried);
        due("what can be seen after " + call, traces(tried), traces(untried));
    }

    void end() {
        System.out.println(title + ": " + checks + " checks, " + wrong + " wrong");
        if (wrong != 0 || checks == 0) {
            System.exit(1);
        }
    }

    static Object answer(Buildlots line, Function<Buildlots, Object> call) {
        try {
            return call.apply(line);
        } catch (RuntimeException e) {
            return "throws " + e.getClass().getName();
        }
    }

    /** Asks all that can be asked, and then makes changes whose answers tell what no question tells. */
    private static String traces(Buildlots line) {
        Trace trace = new Trace(line);
        trace.ask("day", x -> x.day());
        trace.ask("scoreSumBits", x -> x.scoreSumBits());
        int keys = trace.askWhileThere("isLive", 9, (x, key) -> x.isLive(key));
        int builds = trace.askWhileThere("nameOf", 25, (x, build) -> x.nameOf(build));
        int mirrors = trace.askWhileThere("isExpired", 4, (x, mirror) -> x.isExpired(mirror));
        for (int key = 0; key < keys; key++) {
            trace.ask("hangsOnKey", key, (x, k) -> x.hangsOnKey(k));
        }
        for (int build = 0; build < builds; build++) {
            traceBuild(trace, build);
        }
        for (int name : NAMES) {
            trace.ask("newest", name, (x, n) -> x.newest(n));
            for (int mirror = 0; mirror < mirrors; mirror++) {
                int number = mirror;
                trace.ask("install", name, (x, n) -> x.install(number, n));
            }
        }
        traceByChanges(trace, keys, builds, mirrors);
        return trace.text.toString();
    }

    private static void traceBuild(Trace trace, int build) {
        trace.ask("version", build, (x, b) -> x.version(b));
        trace.ask("used", build, (x, b) -> x.used(b));
        trace.ask("scoreBits", build, (x, b) -> x.scoreBits(b));
        trace.ask("isTrusted", build, (x, b) -> x.isTrusted(b));
        trace.ask("isRecalled", build, (x, b) -> x.isRecalled(b));
        trace.ask("share", build, (x, b) -> x.share(b));
        for (int signer : SIGNERS) {
            trace.ask("vouches", build, (x, b) -> x.vouches(b, signer));
        }
    }

    private static void traceByChanges(Trace trace, int keys, int builds, int mirrors) {
        for (int signer : SIGNERS) {
            trace.ask("setWeight", signer, (x, s) -> x.setWeight(s, 50));
        }
        for (int name : NAMES) {
            trace.ask("setThreshold", name, (x, n) -> x.setThreshold(n, 100));
        }
        trace.ask("setExpiry", x -> x.setExpiry(0));
        for (int key = 0; key < keys; key++) {
            trace.ask("extendKey", key, (x, k) -> x.extendKey(k, 999));
            if (builds > 0) {
                trace.ask("attest", key, (x, k) -> x.attest(builds - 1, k));
            }
            trace.ask("loseKey", key, (x, k) -> x.loseKey(k));
        }
        for (int build = 0; build < builds; build++) {
            trace.ask("rebuild", build, (x, b) -> x.rebuild(b, 7));
            trace.ask("lift", build, (x, b) -> x.lift(b));
        }
        for (int mirror = 0; mirror < mirrors; mirror++) {
            trace.ask("update", mirror, (x, m) -> x.update(m));
        }
        trace.ask("addKey", x -> x.addKey(0, x.day(), 999));
        trace.ask("build", x -> x.build(0, 0, 7));
        trace.ask("addMirror", x -> x.addMirror());
        trace.ask("pass", x -> x.pass(1));
    }

    private interface Numbered {
        Object on(Buildlots line, int number);
    }

    private static final class Trace {
        private final Buildlots line;
        private final StringBuilder text = new StringBuilder();
        private int calls;

        Trace(Buildlots line) {
            this.line = line;
        }

        Object ask(String call, Function<Buildlots, Object> question) {
            Object got = answer(line, question);
            text.append(call).append('=').append(got).append(' ');
            // beyond the 512th call the document promises nothing, and scenes take some of them
            if (++calls > MOST_CALLS - 100) {
                throw new AssertionError("too many calls to trace");
            }
            return got;
        }

        Object ask(String call, int number, Numbered question) {
            return ask(call + " " + number, x -> question.on(x, number));
        }

        int askWhileThere(String call, int bound, Numbered question) {
            int number = 0;
            while (number < bound && !ask(call, number, question).toString().startsWith("throws")) {
                number++;
            }
            return number;
        }
    }

    /** The numbers at the rim of int and next to the range from 0 to the last one. */
    static List<Integer> notBetweenZeroAnd(int last) {
        List<Integer> numbers = new ArrayList<>();
        numbers.add(-1);
        numbers.add(last + 1);
        numbers.add(Integer.MIN_VALUE);
        numbers.add(Integer.MAX_VALUE);
        return numbers;
    }
}

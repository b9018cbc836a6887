import java.util.LinkedHashMap;
import java.util.Map;
import java.util.function.Consumer;
import java.util.function.Function;

/** What the terms say of exceptions: a method for each of the two sentences, over all calls of the face. */
final class RefusalBounds {
    private static final Class<IllegalArgumentException> ARGUMENT = IllegalArgumentException.class;
    private static final Class<IllegalStateException> STATE = IllegalStateException.class;
    private static final Class<IndexOutOfBoundsException> INDEX = IndexOutOfBoundsException.class;
    private static final Class<UnsupportedOperationException> UNSUPPORTED = UnsupportedOperationException.class;

    private final Checks checks;

    private RefusalBounds(Checks checks) {
        this.checks = checks;
    }

    static void check(Checks checks) {
        RefusalBounds bounds = new RefusalBounds(checks);
        bounds.refusedCallsChangeNothing();
        bounds.firstOfSeveral();
    }

    /** Of each kind of exception of each call one, or several where it has several causes, on a line that has all. */
    private static Map<String, Function<Buildlots, Object>> refusedCalls() {
        Map<String, Function<Buildlots, Object>> calls = new LinkedHashMap<>();
        calls.put("addKey(4, 9, 20)", x -> x.addKey(4, 9, 20));
        calls.put("addKey(0, 8, 20)", x -> x.addKey(0, 8, 20));
        calls.put("addKey(0, 20, 19)", x -> x.addKey(0, 20, 19));
        calls.put("addKey(0, 9, 1000)", x -> x.addKey(0, 9, 1000));
        calls.put("addKey(0, 9, 20)", x -> x.addKey(0, 9, 20));
        calls.put("loseKey(8)", x -> x.loseKey(8));
        calls.put("loseKey(7)", x -> x.loseKey(7));
        calls.put("extendKey(8, 20)", x -> x.extendKey(8, 20));
        calls.put("extendKey(0, 10)", x -> x.extendKey(0, 10));
        calls.put("extendKey(0, 1000)", x -> x.extendKey(0, 1000));
        calls.put("extendKey(7, 20)", x -> x.extendKey(7, 20));
        calls.put("extendKey(6, 20)", x -> x.extendKey(6, 20));
        calls.put("isLive(8)", x -> x.isLive(8));
        calls.put("setWeight(4, 1)", x -> x.setWeight(4, 1));
        calls.put("setWeight(0, 101)", x -> x.setWeight(0, 101));
        calls.put("setThreshold(5, 1)", x -> x.setThreshold(5, 1));
        calls.put("setThreshold(0, 401)", x -> x.setThreshold(0, 401));
        calls.put("build(5, 0, 0)", x -> x.build(5, 0, 0));
        calls.put("build(0, 1 << 24, 0)", x -> x.build(0, 1 << 24, 0));
        calls.put("build(0, 1 << 23, 0)", x -> x.build(0, 1 << 23, 0));
        calls.put("build(0, 1, 0)", x -> x.build(0, 1, 0));
        calls.put("nameOf(24)", x -> x.nameOf(24));
        calls.put("version(24)", x -> x.version(24));
        calls.put("uses(0, 24)", x -> x.uses(0, 24));
        calls.put("used(24)", x -> x.used(24));
        calls.put("newest(5)", x -> x.newest(5));
        calls.put("newest(3)", x -> x.newest(3));
        addRefusedCallsFromAttestOn(calls);
        return calls;
    }

    private static void addRefusedCallsFromAttestOn(Map<String, Function<Buildlots, Object>> calls) {
        calls.put("attest(24, 0)", x -> x.attest(24, 0));
        calls.put("attest(0, 8)", x -> x.attest(0, 8));
        calls.put("attest(0, 7)", x -> x.attest(0, 7));
        calls.put("attest(0, 6)", x -> x.attest(0, 6));
        calls.put("attest(0, 0)", x -> x.attest(0, 0));
        calls.put("attest(23, 2)", x -> x.attest(23, 2));
        calls.put("vouches(24, 0)", x -> x.vouches(24, 0));
        calls.put("vouches(0, 4)", x -> x.vouches(0, 4));
        calls.put("vouchesByList(24, 0)", x -> x.vouchesByList(24, 0));
        calls.put("vouchesByList(0, 4)", x -> x.vouchesByList(0, 4));
        calls.put("score(24)", x -> x.score(24));
        calls.put("scoreBits(24)", x -> x.scoreBits(24));
        calls.put("isTrusted(24)", x -> x.isTrusted(24));
        calls.put("hangsOnKey(8)", x -> x.hangsOnKey(8));
        calls.put("recall(24)", x -> x.recall(24));
        calls.put("recall(22)", x -> x.recall(22));
        calls.put("lift(24)", x -> x.lift(24));
        calls.put("lift(23)", x -> x.lift(23));
        calls.put("isRecalled(24)", x -> x.isRecalled(24));
        calls.put("rebuild(24, 0)", x -> x.rebuild(24, 0));
        calls.put("rebuild(0, 7)", x -> x.rebuild(0, 7));
        calls.put("share(24)", x -> x.share(24));
        calls.put("share(1)", x -> x.share(1));
        calls.put("addMirror()", x -> x.addMirror());
        calls.put("update(3)", x -> x.update(3));
        calls.put("isExpired(3)", x -> x.isExpired(3));
        calls.put("setExpiry(100)", x -> x.setExpiry(100));
        calls.put("install(3, 0)", x -> x.install(3, 0));
        calls.put("install(0, 5)", x -> x.install(0, 5));
        calls.put("install(1, 0)", x -> x.install(1, 0));
        calls.put("install(0, 3)", x -> x.install(0, 3));
        calls.put("pass(0)", x -> x.pass(0));
        calls.put("pass(61)", x -> x.pass(61));
    }

    /**
     * On the day 9: 8 keys, of which 6 is past and 7 is lost, 24 builds, of which 0 to 2 are trusted and 22 is marked
     * and used by 23, the mirror 0 up to date, 1 expired and 2 never up to date, and 99 results told for the build 0.
     */
    private static void fullLine(Buildlots x) {
        for (int key = 0; key < 8; key++) {
            x.addKey(key % 4, 0, key == 6 ? 8 : 10);
        }
        Scenes.chain(3).andThen(Scenes.builds(20)).accept(x);
        x.build(3, 1 << 22, 123);
        for (int build = 0; build < 3; build++) {
            x.attest(build, 0);
            x.attest(build, 1);
        }
        x.recall(22);
        Scenes.mirrors(3).accept(x);
        x.update(1);
        x.pass(9);
        x.update(0);
        x.loseKey(7);
        for (int told = 0; told < 99; told++) {
            x.rebuild(0, 100);
        }
    }

    private void refusedCallsChangeNothing() {
        checks.sentence(Document.TERMS, "A method that throws an exception changes nothing.");
        Map<String, Function<Buildlots, Object>> calls = refusedCalls();
        Consumer<Buildlots> full = RefusalBounds::fullLine;
        String untouched = Trace.of(full);
        Buildlots x = Scenes.line(full);
        for (Map.Entry<String, Function<Buildlots, Object>> call : calls.entrySet()) {
            checks.due(call.getKey() + " is refused", Trace.isRefusal(Checks.answer(x, call.getValue())), true);
            String touched = Trace.of(full.andThen(y -> Checks.answer(y, call.getValue())));
            checks.due("what can be seen after " + call.getKey(), touched, untouched);
        }
        checks.due("day() after all of them", x.day(), 9);
        String touched = Trace.of(full.andThen(y -> calls.values().forEach(call -> Checks.answer(y, call))));
        checks.due("what can be seen after all of them", touched, untouched);
    }

    private void firstOfSeveral() {
        checks.sentence(Document.TERMS, "If several exceptions apply, the one that is listed first is thrown.");
        Consumer<Buildlots> full = RefusalBounds::fullLine;
        checks.refuses(ARGUMENT, "addKey: no signer, no room", full, x -> x.addKey(4, 9, 20));
        checks.refuses(ARGUMENT, "addKey: a first day gone, no room", full, x -> x.addKey(0, 8, 20));
        checks.refuses(ARGUMENT, "addKey: no span, no room", full, x -> x.addKey(0, 20, 19));
        checks.refuses(ARGUMENT, "addKey: too late, no room", full, x -> x.addKey(0, 9, 1000));
        checks.refuses(INDEX, "extendKey: no key, too late", full, x -> x.extendKey(8, 1000));
        checks.refuses(INDEX, "extendKey: no key, not later", full, x -> x.extendKey(8, -1));
        checks.refuses(ARGUMENT, "extendKey: not later, lost", full, x -> x.extendKey(7, 10));
        checks.refuses(ARGUMENT, "extendKey: too late, lost", full, x -> x.extendKey(7, 1000));
        checks.refuses(ARGUMENT, "extendKey: not later, past", full, x -> x.extendKey(6, 8));
        checks.refuses(ARGUMENT, "extendKey: too late, past", full, x -> x.extendKey(6, 1000));
        checks.refuses(ARGUMENT, "build: no name, recalled, no room", full, x -> x.build(5, 1 << 22, 0));
        checks.refuses(ARGUMENT, "build: no name, no room", full, x -> x.build(5, 0, 0));
        checks.refuses(ARGUMENT, "build: no input, recalled, no room", full, x -> x.build(0, 1 << 22 | 1 << 24, 0));
        checks.refuses(ARGUMENT, "build: no input, no room", full, x -> x.build(0, 1 << 24, 0));
        checks.refuses(UNSUPPORTED, "build: recalled, no room", full, x -> x.build(0, 1 << 22, 0));
        checks.refuses(UNSUPPORTED, "build: recalled by its input, no room", full, x -> x.build(0, 1 << 23, 0));
        Consumer<Buildlots> marked = Scenes.builds(1).andThen(x -> x.recall(0));
        checks.refuses(ARGUMENT, "build: no name, recalled", marked, x -> x.build(-1, 1, 0));
        checks.refuses(ARGUMENT, "build: no input, recalled", marked, x -> x.build(0, 3, 0));
        checks.refuses(ARGUMENT, "newest: no name, none", full, x -> x.newest(5));
        firstOfSeveralFromAttestOn(full);
    }

    private void firstOfSeveralFromAttestOn(Consumer<Buildlots> full) {
        checks.refuses(INDEX, "attest: no build, lost", full, x -> x.attest(24, 7));
        checks.refuses(INDEX, "attest: no key, recalled", full, x -> x.attest(22, 8));
        checks.refuses(STATE, "attest: lost, recalled", full, x -> x.attest(22, 7));
        checks.refuses(STATE, "attest: past, recalled by its input", full, x -> x.attest(23, 6));
        checks.refuses(STATE, "attest: again, recalled", full.andThen(x -> x.recall(0)), x -> x.attest(0, 0));
        checks.refuses(STATE, "attest: again, recalled by its input", full.andThen(x -> x.recall(0)),
                x -> x.attest(1, 0));
        checks.refuses(INDEX, "vouches: no build, no signer", full, x -> x.vouches(24, 4));
        checks.refuses(INDEX, "vouchesByList: no build, no signer", full, x -> x.vouchesByList(-1, -1));
        checks.refuses(INDEX, "install: no mirror, no name", full, x -> x.install(3, 5));
        checks.refuses(INDEX, "install: no mirror, none", full, x -> x.install(3, 3));
        checks.refuses(ARGUMENT, "install: no name, expired", full, x -> x.install(1, 5));
        checks.refuses(ARGUMENT, "install: no name, never up to date", full, x -> x.install(2, -1));
        checks.refuses(ARGUMENT, "install: no name, none", full, x -> x.install(0, 5));
        checks.refuses(UNSUPPORTED, "install: expired, none", full, x -> x.install(1, 3));
        checks.refuses(UNSUPPORTED, "install: never up to date, none", full, x -> x.install(2, 3));
    }
}

import java.util.function.Function;
import java.util.function.Supplier;

/** Long runs of mixed calls, the same ones at each start, each answer compared with that of LineModel. */
public final class ModelTest {
    private static final int RUNS = 4000;
    private static final int CALLS = 512;
    private static final int[] ODD = {-1, Integer.MIN_VALUE, Integer.MAX_VALUE, 24, 31, 32, 1000};
    /** Each call's number as often as it shall come, so that runs fill up and still ask much. */
    private static final String OFTEN = "addKey addKey build build build attest attest attest attest attest attest "
            + "pass update recall lift rebuild setWeight setThreshold extendKey loseKey addMirror install install ";
    private static final String ONCE = "isLive nameOf version uses used newest vouches vouchesByList score "
            + "scoreBits isTrusted hangsOnKey isRecalled share isExpired setExpiry day scoreSumBits ";
    private static final String[] CALLS_BY_NUMBER = (OFTEN + ONCE + ONCE).split(" ");

    private final Checks checks;
    private final int run;
    private final Buildlots line = new Buildlots();
    private final LineModel model = new LineModel();
    private long seed;

    private ModelTest(Checks checks, int run) {
        this.checks = checks;
        this.run = run;
        this.seed = run * 7919L + 17;
    }

    public static void main(String[] args) {
        Checks checks = new Checks("ModelTest");
        for (int run = 0; run < RUNS; run++) {
            new ModelTest(checks, run).goOn();
        }
        checks.end();
    }

    private void goOn() {
        for (int call = 0; call < CALLS; call++) {
            step(CALLS_BY_NUMBER[below(CALLS_BY_NUMBER.length)]);
        }
    }

    private int below(int bound) {
        seed = seed * 6364136223846793005L + 1442695040888963407L;
        return (int) ((seed >>> 33) % bound);
    }

    /** A number of those that there are, seldom the one after them, and more seldom one that is far off. */
    private int number(int count) {
        return below(60) == 0 ? ODD[below(ODD.length)] : below(Math.max(1, count + (below(12) == 0 ? 1 : 0)));
    }

    private int key() {
        return number(model.numberOfKeys());
    }

    private int build() {
        return number(model.numberOfBuilds());
    }

    private int mirror() {
        return number(model.numberOfMirrors());
    }

    /** Some runs have short spans of days, some long ones; most keys are live soon, for else nothing is trusted. */
    private int span() {
        return below(8) == 0 ? below(12) - 2 : below(run % 3 == 0 ? 30 : 400);
    }

    private int inputs() {
        int inputs = 0;
        for (int i = below(3); i > 0; i--) {
            inputs |= 1 << below(24);
        }
        // most sets name builds that there are, which a set out of 24 seldom does in a new line
        return below(6) == 0 ? inputs : inputs & (1 << model.numberOfBuilds()) - 1;
    }

    private void step(String call) {
        switch (call) {
            case "addKey", "loseKey", "extendKey", "isLive", "setWeight", "setThreshold" -> keyStep(call);
            case "build", "nameOf", "version", "uses", "used", "newest" -> buildStep(call);
            case "attest", "vouches", "vouchesByList", "score", "scoreBits", "isTrusted", "hangsOnKey" ->
                    trustStep(call);
            case "recall", "lift", "isRecalled", "rebuild", "share" -> recallStep(call);
            default -> mirrorStep(call);
        }
    }

    private void keyStep(String call) {
        int key = key();
        int signer = number(4);
        int name = number(5);
        int first = model.day() + (below(2) == 0 ? 0 : below(12) - below(10) / 9);
        int last = below(20) == 0 ? 990 + below(12) : first + span();
        int weight = below(3) == 0 ? 50 : number(101);
        int threshold = below(3) > 0 ? 1 + number(100) : number(401);
        switch (call) {
            case "addKey" -> same(call, x -> x.addKey(signer, first, last), () -> model.addKey(signer, first, last));
            case "loseKey" -> same(call, x -> x.loseKey(key), () -> model.loseKey(key));
            case "extendKey" -> same(call, x -> x.extendKey(key, last), () -> model.extendKey(key, last));
            case "isLive" -> same(call, x -> x.isLive(key), () -> model.isLive(key));
            case "setWeight" -> same(call, x -> x.setWeight(signer, weight), () -> model.setWeight(signer, weight));
            default -> same(call, x -> x.setThreshold(name, threshold), () -> model.setThreshold(name, threshold));
        }
    }

    private void buildStep(String call) {
        int build = build();
        int other = build();
        int name = number(5);
        int inputs = inputs();
        int result = below(3);
        switch (call) {
            case "build" -> same(call, x -> x.build(name, inputs, result), () -> model.build(name, inputs, result));
            case "nameOf" -> same(call, x -> x.nameOf(build), () -> model.nameOf(build));
            case "version" -> same(call, x -> x.version(build), () -> model.version(build));
            case "uses" -> same(call, x -> x.uses(build, other), () -> model.uses(build, other));
            case "used" -> same(call, x -> x.used(build), () -> model.used(build));
            default -> same(call, x -> x.newest(name), () -> model.newest(name));
        }
    }

    private void trustStep(String call) {
        int build = build();
        int key = key();
        int signer = number(4);
        switch (call) {
            case "attest" -> same(call, x -> x.attest(build, key), () -> model.attest(build, key));
            case "vouches" -> same(call, x -> x.vouches(build, signer), () -> model.vouches(build, signer));
            case "vouchesByList" ->
                    same(call, x -> x.vouchesByList(build, signer), () -> model.vouches(build, signer));
            case "score" -> same(call, x -> x.score(build), () -> model.score(build));
            case "scoreBits" -> same(call, x -> x.scoreBits(build), () -> model.scoreBits(build));
            case "isTrusted" -> same(call, x -> x.isTrusted(build), () -> model.isTrusted(build));
            default -> same(call, x -> x.hangsOnKey(key), () -> model.hangsOnKey(key));
        }
    }

    private void recallStep(String call) {
        int build = build();
        int rebuilt = below(4) == 0 ? build : 0;
        int result = below(3);
        switch (call) {
            case "recall" -> same(call, x -> x.recall(build), () -> model.recall(build));
            case "lift" -> same(call, x -> x.lift(build), () -> model.lift(build));
            case "isRecalled" -> same(call, x -> x.isRecalled(build), () -> model.isRecalled(build));
            case "rebuild" -> same(call, x -> x.rebuild(rebuilt, result), () -> model.rebuild(rebuilt, result));
            default -> same(call, x -> x.share(rebuilt), () -> model.share(rebuilt));
        }
    }

    private void mirrorStep(String call) {
        int mirror = mirror();
        int name = number(5);
        int expiry = below(2) == 0 ? number(100) : number(12);
        int days = below(8) == 0 ? number(61) : 1 + below(run % 3 == 0 ? 3 : 20);
        switch (call) {
            case "addMirror" -> same(call, x -> x.addMirror(), () -> model.addMirror());
            case "update" -> same(call, x -> x.update(mirror), () -> model.update(mirror));
            case "isExpired" -> same(call, x -> x.isExpired(mirror), () -> model.isExpired(mirror));
            case "setExpiry" -> same(call, x -> x.setExpiry(expiry), () -> model.setExpiry(expiry));
            case "install" -> same(call, x -> x.install(mirror, name), () -> model.install(mirror, name));
            case "pass" -> same(call, x -> x.pass(days), () -> model.pass(days));
            case "day" -> same(call, x -> x.day(), () -> model.day());
            default -> same(call, x -> x.scoreSumBits(), () -> model.scoreSumBits());
        }
    }

    private void same(String call, Function<Buildlots, Object> ofLine, Supplier<Object> ofModel) {
        Object want = Checks.answer(line, x -> ofModel.get());
        checks.due(call + " in run " + run, Checks.answer(line, ofLine), want);
    }
}

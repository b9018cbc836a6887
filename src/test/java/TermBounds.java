import java.util.List;
import java.util.NoSuchElementException;
import java.util.function.Consumer;
import java.util.function.Function;

/** The boundary cases of the terms that all promises use: a method for each sentence that names one. */
final class TermBounds {
    private static final Class<IllegalArgumentException> ARGUMENT = IllegalArgumentException.class;
    private static final Class<IllegalStateException> STATE = IllegalStateException.class;
    private static final Class<IndexOutOfBoundsException> INDEX = IndexOutOfBoundsException.class;
    private static final Class<UnsupportedOperationException> UNSUPPORTED = UnsupportedOperationException.class;
    private static final Class<NoSuchElementException> NO_ELEMENT = NoSuchElementException.class;
    private static final String TERMS = Document.TERMS;
    private static final int MOST_CALLS = 512;

    private final Checks checks;

    private TermBounds(Checks checks) {
        this.checks = checks;
    }

    static void check(Checks checks) {
        TermBounds bounds = new TermBounds(checks);
        bounds.calls();
        bounds.keptAndListed();
        bounds.roundedSteps();
        bounds.days();
        bounds.signers();
        bounds.keys();
        bounds.spans();
        bounds.weights();
        bounds.names();
        bounds.builds();
        bounds.versionsAndInputs();
        bounds.usedBuilds();
        bounds.attestedOnce();
        bounds.vouchers();
        bounds.scores();
        bounds.trust();
        bounds.marks();
        bounds.recalls();
        bounds.mirrors();
        bounds.lists();
        bounds.expiry();
        bounds.clients();
        bounds.rebuilders();
        bounds.shares();
    }

    private void calls() {
        checks.sentence("What it is",
                "An object is used for at most 512 calls after it has been made; what later calls answer is free.");
        Buildlots x = Scenes.line(Scenes.trusted(24));
        int callsOfScene = 1 + 2 + 24 + 48;
        for (int call = callsOfScene + 2; call < MOST_CALLS; call += 2) {
            Object got = x.isRecalled(0) ? x.lift(0) : x.recall(0);
            checks.due("lift(0) or recall(0) as call " + call, got, 24);
        }
        checks.due("newest(0) as call 512", Checks.answer(x, y -> y.newest(0)), 20);
        Buildlots z = Scenes.line(Scenes.trusted(24));
        for (int call = callsOfScene + 1; call < MOST_CALLS; call++) {
            checks.due("pass(0) as call " + call, Checks.answer(z, y -> y.pass(0)), "throws " + ARGUMENT.getName());
        }
        checks.due("scoreSumBits() as call 512", z.scoreSumBits(), Double.doubleToLongBits(24.0));
    }

    private void keptAndListed() {
        checks.sentence(TERMS,
                "Who vouches for a build is kept as days come, and can be found from all attestations.");
        Buildlots x = new Buildlots();
        x.build(0, 0, 0);
        for (int key = 0; key < 8; key++) {
            x.addKey(key / 2, key, 3 * key);
        }
        for (int day = 0; day <= 22; day++) {
            if (day < 8) {
                x.attest(0, day);
            }
            for (int signer = 0; signer < 4; signer++) {
                boolean due = vouchesOn(day, signer);
                checks.due("vouches(0, " + signer + ") on day " + day, x.vouches(0, signer), due);
                checks.due("vouchesByList(0, " + signer + ") on day " + day, x.vouchesByList(0, signer), due);
            }
            x.pass(1);
        }
    }

    /** Each signer has the keys 2 s and 2 s + 1, and key k is live, and has attested, on the days k to 3 k. */
    private static boolean vouchesOn(int day, int signer) {
        int first = 2 * signer;
        return first <= day && day <= 3 * first || first + 1 <= day && day <= 3 * first + 3;
    }

    /** A build that the signers of as many keys as there are weights vouch for, attested from the last one on. */
    private static Buildlots weighed(int... weights) {
        Buildlots x = Scenes.line(Scenes.keys(weights.length).andThen(Scenes.builds(1)));
        for (int signer = 0; signer < weights.length; signer++) {
            x.setWeight(signer, weights[signer]);
        }
        for (int key = weights.length - 1; key >= 0; key--) {
            x.attest(0, key);
        }
        return x;
    }

    private void roundedSteps() {
        checks.sentence(TERMS, "Where the text says float, it is reckoned in this type, step by step as told, with the"
                + " rounding of each step.");
        // one hundredth and four are a bit less than five in floats, and not in doubles or whole numbers
        Buildlots x = weighed(1, 4);
        x.setThreshold(0, 5);
        checks.due("scoreBits(0), of 1 and 4", x.scoreBits(0), Float.floatToIntBits(5 / 100.0f) - 1);
        checks.due("isTrusted(0), of 1 and 4 for 5", x.isTrusted(0), false);
        checks.due("scoreSumBits(), of 1 and 4", x.scoreSumBits(), Double.doubleToLongBits((double) 0.049999997f));
        x.setThreshold(0, 4);
        checks.due("isTrusted(0), of 1 and 4 for 4", x.isTrusted(0), true);
        x.rebuild(0, 100);
        x.rebuild(0, 7);
        x.rebuild(0, 7);
        checks.due("share(0), of a third", x.share(0), 0.33333334f);
    }

    private void days() {
        checks.sentence(TERMS, "The day is 0 at first, and 999 is the last one.");
        checks.due("day() at first", new Buildlots().day(), 0);
        Buildlots x = Scenes.line(Scenes.onDay(998));
        checks.due("day()", x.day(), 998);
        checks.due("pass(1) to the last day", x.pass(1), 0);
        checks.due("day()", x.day(), 999);
        checks.refuses(ARGUMENT, "pass(1) on the last day", Scenes.onDay(999), y -> y.pass(1));
        checks.refuses(ARGUMENT, "pass(2) on the day ahead", Scenes.onDay(998), y -> y.pass(2));
    }

    private void signers() {
        checks.sentence(TERMS, "There are the signers 0 to 3.");
        List<Integer> others = List.of(-1, 4);
        checks.refusesEach(ARGUMENT, "addKey(#, 0, 0)", Scenes.builds(1), others, (x, s) -> x.addKey(s, 0, 0));
        checks.refusesEach(ARGUMENT, "setWeight(#, 1)", Scenes.builds(1), others, (x, s) -> x.setWeight(s, 1));
        checks.refusesEach(ARGUMENT, "vouches(0, #)", Scenes.builds(1), others, (x, s) -> x.vouches(0, s));
        checks.refusesEach(ARGUMENT, "vouchesByList(0, #)", Scenes.builds(1), others, (x, s) -> x.vouchesByList(0, s));
        for (int signer = 0; signer < 4; signer++) {
            Buildlots x = Scenes.line(Scenes.builds(1));
            checks.due("addKey of " + signer, x.addKey(signer, 0, 0), 0);
            checks.due("setWeight of " + signer, x.setWeight(signer, 7), 50);
            x.attest(0, 0);
            checks.due("vouches of " + signer, x.vouches(0, signer), true);
            checks.due("vouchesByList of " + signer, x.vouchesByList(0, signer), true);
            checks.due("score of " + signer, x.score(0), 0.07f);
        }
    }

    private void keys() {
        checks.sentence(TERMS, "At most 8 keys have the numbers 0 to n - 1 in the order in which they were added.");
        Buildlots x = Scenes.line(Scenes.builds(1));
        for (int key = 0; key < 8; key++) {
            checks.due("isLive(" + key + "), ahead of addKey", Checks.answer(x, isLive(key)),
                    "throws " + INDEX.getName());
            checks.due("addKey as number " + key, x.addKey(key / 2, 0, 10 * key), key);
            checks.due("isLive(" + key + ")", x.isLive(key), true);
        }
        checks.due("addKey as the ninth", Checks.answer(x, y -> y.addKey(0, 0, 0)), "throws " + STATE.getName());
        checks.due("isLive(8)", Checks.answer(x, isLive(8)), "throws " + INDEX.getName());
        for (int key = 0; key < 8; key++) {
            checks.due("extendKey(" + key + ", 90)", x.extendKey(key, 90), 10 * key);
            x.attest(0, key);
            checks.due("vouches after attest by " + key, x.vouches(0, key / 2), true);
        }
    }

    private static Function<Buildlots, Object> isLive(int key) {
        return x -> x.isLive(key);
    }

    private void spans() {
        checks.sentence(TERMS, "A key is of a signer and has a first and a last day; it is live on these days and those"
                + " between, until it is lost.");
        Buildlots x = new Buildlots();
        x.addKey(0, 3, 6);
        x.addKey(0, 4, 4);
        x.addKey(0, 3, 6);
        for (int day = 0; day <= 8; day++) {
            checks.due("isLive(0), days 3 to 6, on " + day, x.isLive(0), day >= 3 && day <= 6);
            checks.due("isLive(1), the day 4, on " + day, x.isLive(1), day == 4);
            checks.due("isLive(2), lost on day 5, on " + day, x.isLive(2), day == 3 || day == 4 || day == 5);
            if (day == 5) {
                x.loseKey(2);
                checks.due("isLive(2), now lost", x.isLive(2), false);
            }
            x.pass(1);
        }
        Buildlots y = new Buildlots();
        y.addKey(0, 0, 999);
        Scenes.passTo(y, 999);
        checks.due("isLive(0), all days, on the last", y.isLive(0), true);
    }

    private void weights() {
        checks.sentence(TERMS, "A signer has a weight in hundredths, 50 at first.");
        for (int signer = 0; signer < 4; signer++) {
            int key = signer;
            Buildlots x = Scenes.line(Scenes.keys(4).andThen(Scenes.builds(1)));
            x.attest(0, key);
            checks.due("score(0), by " + signer + " at first", x.score(0), 0.5f);
            checks.due("setWeight(" + signer + ", 0)", x.setWeight(signer, 0), 50);
            checks.due("score(0), by " + signer + " without weight", x.score(0), 0.0f);
            x.setWeight(signer, 100);
            checks.due("score(0), by " + signer + " with the most", x.score(0), 1.0f);
        }
    }

    private void names() {
        checks.sentence(TERMS,
                "There are the names 0 to 4 of packages; each has a threshold in hundredths, 100 at first.");
        Consumer<Buildlots> scene = Scenes.trusted(5).andThen(Scenes.mirrors(1)).andThen(x -> x.update(0));
        List<Integer> others = List.of(-1, 5);
        checks.refusesEach(ARGUMENT, "setThreshold(#, 1)", scene, others, (x, n) -> x.setThreshold(n, 1));
        checks.refusesEach(ARGUMENT, "build(#, 0, 0)", scene, others, (x, n) -> x.build(n, 0, 0));
        checks.refusesEach(ARGUMENT, "newest(#)", scene, others, (x, n) -> x.newest(n));
        checks.refusesEach(ARGUMENT, "install(0, #)", scene, others, (x, n) -> x.install(0, n));
        for (int name = 0; name < 5; name++) {
            Buildlots x = Scenes.line(scene);
            checks.due("nameOf(" + name + ")", x.nameOf(name), name);
            checks.due("newest(" + name + ")", x.newest(name), name);
            checks.due("install(0, " + name + ")", x.install(0, name), name);
            checks.due("isTrusted(" + name + "), of 1.0f at first", x.isTrusted(name), true);
            x.setWeight(0, 49);
            checks.due("isTrusted(" + name + "), of 0.99f at first", x.isTrusted(name), false);
            checks.due("setThreshold(" + name + ", 99)", x.setThreshold(name, 99), 100);
            checks.due("isTrusted(" + name + "), of 0.99f for 99", x.isTrusted(name), true);
        }
    }

    private void builds() {
        checks.sentence(TERMS, "At most 24 builds have the numbers 0 to n - 1 in the order in which they were made.");
        Buildlots x = new Buildlots();
        for (int build = 0; build < 24; build++) {
            int number = build;
            checks.due("nameOf(" + build + "), ahead of build", Checks.answer(x, y -> y.nameOf(number)),
                    "throws " + INDEX.getName());
            checks.due("build as number " + build, x.build(build * 7 % 5, 0, 100 + build), build);
        }
        checks.due("build as the 25th", Checks.answer(x, y -> y.build(0, 0, 0)), "throws " + STATE.getName());
        checks.due("nameOf(24)", Checks.answer(x, y -> y.nameOf(24)), "throws " + INDEX.getName());
        for (int build = 0; build < 24; build++) {
            checks.due("nameOf(" + build + ")", x.nameOf(build), build * 7 % 5);
            checks.due("rebuild(" + build + ", its own)", x.rebuild(build, 100 + build), true);
        }
    }

    private void versionsAndInputs() {
        checks.sentence(TERMS,
                "A build has a name, a version, a set of inputs, which are earlier builds, and a result; the first"
                        + " build of a name has the version 1, and each further one the next.");
        Buildlots x = new Buildlots();
        int[] versions = new int[5];
        for (int build = 0; build < 24; build++) {
            int name = build < 5 ? 4 - build : build * build % 5;
            int own = build;
            versions[name]++;
            checks.due("build from itself", Checks.answer(x, y -> y.build(name, 1 << own, 0)),
                    "throws " + ARGUMENT.getName());
            checks.due("build from all earlier ones", x.build(name, (1 << build) - 1, 0), build);
            checks.due("version(" + build + ")", x.version(build), versions[name]);
            checks.due("used(" + build + ")", x.used(build), build);
        }
        Buildlots y = new Buildlots();
        for (int build = 0; build < 24; build++) {
            y.build(2, 0, 0);
        }
        checks.due("version(0), of the first", y.version(0), 1);
        checks.due("version(23), of the 24th of a name", y.version(23), 24);
        checks.due("used(23), of the empty set", y.used(23), 0);
    }

    private void usedBuilds() {
        checks.sentence(TERMS, "A build uses its inputs and all that these use.");
        Buildlots x = new Buildlots();
        x.build(0, 0, 0);
        x.build(1, 1, 0);
        x.build(2, 1, 0);
        x.build(3, 2 + 4, 0);
        x.build(4, 0, 0);
        checks.due("used(0), without inputs", x.used(0), 0);
        checks.due("used(3), with 0 by two ways", x.used(3), 3);
        checks.due("uses(3, 0), by its inputs alone", x.uses(3, 0), true);
        checks.due("uses(3, 3), itself", x.uses(3, 3), false);
        checks.due("uses(3, 4), a later one", x.uses(3, 4), false);
        checks.due("uses(4, 0), without inputs", x.uses(4, 0), false);
        Buildlots y = Scenes.line(Scenes.chain(24));
        for (int build = 0; build < 24; build++) {
            checks.due("used(" + build + "), of a chain", y.used(build), build);
            checks.due("uses(" + build + ", 0), of a chain", y.uses(build, 0), build > 0);
            checks.due("uses(23, " + build + "), of a chain", y.uses(23, build), build < 23);
        }
    }

    private void attestedOnce() {
        checks.sentence(TERMS, "A key can attest a build once.");
        Consumer<Buildlots> attested = Scenes.keys(8).andThen(Scenes.builds(24)).andThen(x -> {
            x.attest(0, 0);
            x.attest(23, 7);
        });
        checks.refuses(STATE, "attest(0, 0) again", attested, x -> x.attest(0, 0));
        checks.refuses(STATE, "attest(23, 7) again, on another day", attested.andThen(x -> x.pass(1)),
                x -> x.attest(23, 7));
        checks.refuses(STATE, "attest(0, 0) again, after a recall", attested.andThen(x -> {
            x.recall(0);
            x.lift(0);
        }), x -> x.attest(0, 0));
        Buildlots x = Scenes.line(attested);
        checks.due("attest(0, 4), with another key of the signer", x.attest(0, 4), 2);
        checks.due("attest(23, 0), another build", x.attest(23, 0), 2);
        checks.due("attest(0, 7), another build", x.attest(0, 7), 3);
    }

    private void vouchers() {
        checks.sentence(TERMS,
                "A signer vouches for a build if one of the signer's keys has attested it and is live today.");
        Buildlots x = new Buildlots();
        x.build(0, 0, 0);
        x.build(1, 1, 0);
        x.addKey(0, 0, 2);
        x.addKey(0, 1, 4);
        x.addKey(1, 0, 9);
        checks.due("vouches(0, 0), attested by none", x.vouches(0, 0), false);
        x.attest(0, 0);
        checks.due("vouches(0, 0), attested today", x.vouches(0, 0), true);
        checks.due("vouches(1, 0), whose input is attested", x.vouches(1, 0), false);
        checks.due("vouches(0, 1), with a live key that has not", x.vouches(0, 1), false);
        x.pass(2);
        x.attest(0, 1);
        x.pass(1);
        checks.due("vouches(0, 0), with one key past and one live", x.vouches(0, 0), true);
        x.pass(1);
        checks.due("vouches(0, 0), on the last day of both", x.vouches(0, 0), true);
        x.pass(1);
        checks.due("vouches(0, 0), past both", x.vouches(0, 0), false);
        x.addKey(0, 5, 9);
        checks.due("vouches(0, 0), with a live key that has not", x.vouches(0, 0), false);
        x.attest(0, 3);
        x.loseKey(3);
        checks.due("vouches(0, 0), lost", x.vouches(0, 0), false);
        checks.due("vouchesByList(0, 0), lost", x.vouchesByList(0, 0), false);
    }

    private void scores() {
        checks.sentence(TERMS,
                "The score of a build is a float: 0.0f, to which, in the order of the signers, the quotient of the"
                        + " weight and 100.0f is added for each one who vouches, the weight converted to float.");
        checks.due("scoreBits(0), for which nobody vouches", weighed().scoreBits(0), 0);
        checks.due("scoreBits(0), of the least weights", weighed(0, 0, 0, 0).scoreBits(0), 0);
        checks.due("score(0), of the greatest weights", weighed(100, 100, 100, 100).score(0), 4.0f);
        // the order of the signers tells, and not that of the attestations: each sum rounds in another way
        checks.due("score(0), of 1, 1 and 13", weighed(1, 1, 13).score(0), 0.14999999f);
        checks.due("score(0), of 13, 1 and 1", weighed(13, 1, 1).score(0), 0.15f);
        Buildlots x = Scenes.line(Scenes.keys(8).andThen(Scenes.builds(1)));
        x.attest(0, 0);
        x.attest(0, 4);
        checks.due("score(0), of two keys of a signer", x.score(0), 0.5f);
    }

    private void trust() {
        checks.sentence(TERMS,
                "A build is trusted if its score is not less than the quotient of the threshold of its name, converted"
                        + " to float, and 100.0f.");
        int[][] weightsAndThreshold = {
            {1, 0, 0, 0, 1}, {50, 50, 0, 0, 100}, {13, 1, 1, 0, 15}, {100, 100, 100, 100, 400},
        };
        for (int[] row : weightsAndThreshold) {
            Buildlots x = weighed(row[0], row[1], row[2], row[3]);
            int threshold = row[4];
            x.setThreshold(0, threshold);
            checks.due("isTrusted(0), with as much as " + threshold, x.isTrusted(0), true);
            x.setThreshold(0, Math.min(400, threshold + 1));
            checks.due("isTrusted(0), with a hundredth more to reach", x.isTrusted(0), threshold == 400);
            x.setThreshold(0, threshold);
            x.setWeight(0, row[0] - 1);
            checks.due("isTrusted(0), with a hundredth less", x.isTrusted(0), false);
        }
        Buildlots y = weighed(1, 1, 13);
        y.setThreshold(0, 15);
        checks.due("isTrusted(0), a bit less than 0.15f", y.isTrusted(0), false);
        Buildlots z = weighed(0);
        z.setThreshold(0, 1);
        checks.due("isTrusted(0), of 0.0f for the least threshold", z.isTrusted(0), false);
    }

    private void marks() {
        checks.sentence(TERMS, "A build can be marked as recalled.");
        Buildlots x = Scenes.line(Scenes.builds(24));
        for (int build : new int[] {0, 23}) {
            checks.due("isRecalled(" + build + ") at first", x.isRecalled(build), false);
            checks.due("recall(" + build + ")", x.recall(build), 1);
            checks.due("isRecalled(" + build + "), marked", x.isRecalled(build), true);
            checks.due("recall(" + build + ") again", Checks.answer(x, y -> y.recall(build)),
                    "throws " + STATE.getName());
            checks.due("lift(" + build + ")", x.lift(build), 1);
            checks.due("isRecalled(" + build + "), lifted", x.isRecalled(build), false);
        }
    }

    private void recalls() {
        checks.sentence(TERMS, "A build is recalled if it is marked, or a build that it uses is.");
        Buildlots x = Scenes.line(Scenes.chain(12).andThen(Scenes.builds(11)));
        x.build(0, 1 << 11 | 1 << 22, 0);
        x.recall(0);
        for (int build = 0; build < 24; build++) {
            boolean due = build < 12 || build == 23;
            checks.due("isRecalled(" + build + "), with the first of a chain marked", x.isRecalled(build), due);
        }
        x.recall(22);
        x.lift(0);
        for (int build = 0; build < 24; build++) {
            checks.due("isRecalled(" + build + "), with one of two inputs marked", x.isRecalled(build), build >= 22);
        }
    }

    private void mirrors() {
        checks.sentence(TERMS, "At most 3 mirrors have the numbers 0 to n - 1.");
        Buildlots x = new Buildlots();
        for (int mirror = 0; mirror < 3; mirror++) {
            int number = mirror;
            checks.due("update(" + mirror + "), ahead of addMirror", Checks.answer(x, y -> y.update(number)),
                    "throws " + INDEX.getName());
            checks.due("addMirror() as number " + mirror, x.addMirror(), mirror);
            checks.due("update(" + mirror + ")", x.update(mirror), 0);
        }
        checks.due("addMirror() as the fourth", Checks.answer(x, y -> y.addMirror()), "throws " + STATE.getName());
        checks.due("update(3)", Checks.answer(x, y -> y.update(3)), "throws " + INDEX.getName());
    }

    private void lists() {
        checks.sentence(TERMS,
                "When a mirror is brought up to date, its list holds all builds that there are then, each with whether"
                        + " it is recalled then; before that, it is empty.");
        Buildlots x = Scenes.line(Scenes.keys(2).andThen(Scenes.mirrors(2)));
        checks.due("update(0), without builds", x.update(0), 0);
        Scenes.chain(24).accept(x);
        for (int build = 0; build < 24; build++) {
            x.attest(build, 0);
            x.attest(build, 1);
        }
        String none = "throws " + NO_ELEMENT.getName();
        checks.due("install(0, 0), from a list that holds nothing", Checks.answer(x, y -> y.install(0, 0)), none);
        checks.due("install(1, 0), from the list ahead of the first time", Checks.answer(x, y -> y.install(1, 0)),
                "throws " + UNSUPPORTED.getName());
        checks.due("update(0), with 24 builds", x.update(0), 24);
        checks.due("install(0, 3)", x.install(0, 3), 23);
        x.recall(0);
        checks.due("install(0, 3), recalled later", x.install(0, 3), 23);
        checks.due("update(1), with all recalled", x.update(1), 24);
        x.lift(0);
        checks.due("install(1, 3), lifted later", Checks.answer(x, y -> y.install(1, 3)), none);
        x.recall(23);
        x.update(1);
        checks.due("install(1, 3), with the last recalled then", x.install(1, 3), 18);
        x.lift(23);
        x.update(1);
        checks.due("install(1, 3), with none recalled then", x.install(1, 3), 23);
    }

    private void expiry() {
        checks.sentence(TERMS,
                "Its list expires when more days than the expiry, which is 7 at first, have come since it was brought"
                        + " up to date, and it is expired before the first time.");
        Buildlots x = Scenes.line(Scenes.mirrors(3));
        for (int mirror = 0; mirror < 3; mirror++) {
            checks.due("isExpired(" + mirror + "), ahead of the first time", x.isExpired(mirror), true);
        }
        x.setExpiry(99);
        checks.due("isExpired(0), with the longest expiry", x.isExpired(0), true);
        x.setExpiry(7);
        x.pass(3);
        x.update(2);
        for (int days = 0; days <= 9; days++) {
            checks.due("isExpired(2), after " + days + " days", x.isExpired(2), days > 7);
            checks.due("isExpired(1), ahead of the first time", x.isExpired(1), true);
            x.pass(1);
        }
        x.setExpiry(10);
        checks.due("isExpired(2), after 10 days of 10", x.isExpired(2), false);
        x.setExpiry(9);
        checks.due("isExpired(2), after 10 days of 9", x.isExpired(2), true);
        x.setExpiry(0);
        x.update(2);
        checks.due("isExpired(2), after 0 days of 0", x.isExpired(2), false);
        x.pass(1);
        checks.due("isExpired(2), after 1 day of 0", x.isExpired(2), true);
    }

    private void clients() {
        checks.sentence(TERMS,
                "A client may install a build from the list of a mirror if the list tells that it is not recalled, and"
                        + " it is trusted today; of those of a name, it installs the one with the greatest version.");
        Buildlots x = Scenes.line(Scenes.keys(3).andThen(Scenes.mirrors(1)));
        for (int build = 0; build < 24; build++) {
            x.build(1, 0, 0);
            x.attest(build, 0);
            x.attest(build, 1);
        }
        x.update(0);
        checks.due("install(0, 1), of the versions 1 to 24", x.install(0, 1), 23);
        x.setThreshold(1, 150);
        String none = "throws " + NO_ELEMENT.getName();
        checks.due("install(0, 1), with none trusted", Checks.answer(x, y -> y.install(0, 1)), none);
        x.attest(0, 2);
        checks.due("install(0, 1), with the version 1 trusted today", x.install(0, 1), 0);
        x.recall(0);
        checks.due("install(0, 1), recalled, but not in the list", x.install(0, 1), 0);
        x.update(0);
        checks.due("install(0, 1), recalled in the list", Checks.answer(x, y -> y.install(0, 1)), none);
        x.attest(1, 2);
        x.attest(22, 2);
        checks.due("install(0, 1), with the versions 2 and 23 trusted", x.install(0, 1), 22);
        checks.due("install(0, 0), of a name without builds", Checks.answer(x, y -> y.install(0, 0)), none);
    }

    private void rebuilders() {
        checks.sentence(TERMS, "A rebuilder tells a result of a build.");
        Buildlots x = Scenes.line(Scenes.builds(2));
        for (int told = 1; told <= 99; told++) {
            checks.due("rebuild(0, 100) as number " + told, x.rebuild(0, 100), true);
        }
        checks.due("rebuild(0, 100) as number 100", Checks.answer(x, y -> y.rebuild(0, 100)),
                "throws " + STATE.getName());
        checks.due("rebuild(1, 100), of another build", x.rebuild(1, 100), false);
    }

    private void shares() {
        checks.sentence(TERMS,
                "The share of a build is the number of told results that are its own, divided by the number of all"
                        + " results that were told for it, both converted to float.");
        Buildlots x = Scenes.line(Scenes.builds(2));
        checks.due("share(0), of nothing told", Checks.answer(x, y -> y.share(0)), "throws " + NO_ELEMENT.getName());
        for (int told = 1; told <= 99; told++) {
            x.rebuild(0, told <= 50 ? 7 : 100);
            float own = Math.max(0, told - 50);
            checks.due("share(0), after " + told, x.share(0), own / (float) told);
        }
        x.rebuild(1, 101);
        checks.due("share(1), of 1 of 1", x.share(1), 1.0f);
        checks.due("share(0), of 49 of 99", x.share(0), 49.0f / 99.0f);
    }
}

import java.util.List;
import java.util.function.Consumer;

/** The boundary cases of promises 14 to 20: a method for each sentence of the document that names one. */
final class TrustBounds {
    private static final Class<IllegalArgumentException> ARGUMENT = IllegalArgumentException.class;
    private static final Class<IllegalStateException> STATE = IllegalStateException.class;
    private static final Class<IndexOutOfBoundsException> INDEX = IndexOutOfBoundsException.class;
    private static final Class<UnsupportedOperationException> UNSUPPORTED = UnsupportedOperationException.class;

    private final Checks checks;

    private TrustBounds(Checks checks) {
        this.checks = checks;
    }

    static void check(Checks checks) {
        TrustBounds bounds = new TrustBounds(checks);
        bounds.attestNumber();
        bounds.attestNoBuildOrKey();
        bounds.attestNotLiveOrAgain();
        bounds.attestRecalled();
        bounds.vouchesTrue();
        bounds.vouchesNoBuild();
        bounds.vouchesNoSigner();
        bounds.scoreNumber();
        bounds.scoreNoBuild();
        bounds.scoreBitsNumber();
        bounds.scoreBitsNoBuild();
        bounds.isTrustedTrue();
        bounds.isTrustedNoBuild();
        bounds.hangsOnKeyNumber();
        bounds.hangsOnKeyNoKey();
    }

    private static Consumer<Buildlots> keysAndBuilds(int keys, int builds) {
        return Scenes.keys(keys).andThen(Scenes.builds(builds));
    }

    /** The builds 0 to 23 without inputs, of which the last is attested with as many keys as asked for. */
    private static Consumer<Buildlots> lastAttested(int keys) {
        return keysAndBuilds(keys, 24).andThen(x -> {
            for (int key = 0; key < keys; key++) {
                x.attest(23, key);
            }
        });
    }

    private void attestNumber() {
        checks.sentence("Promise 14", "Returns the number of attestations of the build.");
        Buildlots x = Scenes.line(keysAndBuilds(8, 24));
        for (int key = 0; key < 8; key++) {
            checks.due("attest(23, " + key + ")", x.attest(23, key), key + 1);
            checks.due("attest(0, " + (7 - key) + ")", x.attest(0, 7 - key), key + 1);
        }
        Buildlots y = Scenes.line(Scenes.trusted(2));
        y.loseKey(0);
        y.pass(11);
        y.addKey(2, 11, 11);
        checks.due("attest(1, 2), after a lost key and a past one", y.attest(1, 2), 3);
    }

    private void attestNoBuildOrKey() {
        checks.sentence("Promise 14", "Throws `IndexOutOfBoundsException` if there is no such build or key");
        for (int count : new int[] {0, 1, 24}) {
            checks.refusesEach(INDEX, "attest(#, 0) of " + count + " builds", keysAndBuilds(1, count),
                    Checks.notBetweenZeroAnd(count - 1), (x, build) -> x.attest(build, 0));
        }
        for (int count : new int[] {0, 1, 8}) {
            checks.refusesEach(INDEX, "attest(0, #) of " + count + " keys", keysAndBuilds(count, 1),
                    Checks.notBetweenZeroAnd(count - 1), (x, key) -> x.attest(0, key));
        }
        checks.refuses(INDEX, "attest(1, 1) of 1", keysAndBuilds(1, 1), x -> x.attest(1, 1));
        checks.due("attest(23, 7), of as many as there may be", Scenes.line(keysAndBuilds(8, 24)).attest(23, 7), 1);
    }

    private void attestNotLiveOrAgain() {
        checks.sentence("Promise 14",
                "Throws `IllegalStateException` if the key is not live, or has attested the build");
        Consumer<Buildlots> span = Scenes.builds(2).andThen(x -> x.addKey(0, 2, 4));
        for (int day = 0; day <= 6; day++) {
            Consumer<Buildlots> onDay = span.andThen(Scenes.onDay(day));
            if (day >= 2 && day <= 4) {
                checks.due("attest(1, 0) on day " + day + " of 2 to 4", Scenes.line(onDay).attest(1, 0), 1);
            } else {
                checks.refuses(STATE, "attest(1, 0) on day " + day + " of 2 to 4", onDay, x -> x.attest(1, 0));
            }
        }
        checks.refuses(STATE, "attest(1, 0), lost", span.andThen(Scenes.onDay(3)).andThen(x -> x.loseKey(0)),
                x -> x.attest(1, 0));
        Consumer<Buildlots> attested = span.andThen(Scenes.onDay(2)).andThen(x -> x.attest(1, 0));
        checks.refuses(STATE, "attest(1, 0) again", attested, x -> x.attest(1, 0));
        checks.refuses(STATE, "attest(1, 0) again, on its last day", attested.andThen(Scenes.onDay(4)),
                x -> x.attest(1, 0));
        checks.refuses(STATE, "attest(1, 0) again, past", attested.andThen(Scenes.onDay(5)), x -> x.attest(1, 0));
        checks.refuses(STATE, "attest(1, 0) again, lost", attested.andThen(x -> x.loseKey(0)), x -> x.attest(1, 0));
        checks.refuses(STATE, "attest(1, 0) again, extended", attested.andThen(x -> x.extendKey(0, 9))
                .andThen(Scenes.onDay(9)), x -> x.attest(1, 0));
        checks.due("attest(0, 0), of another build", Scenes.line(attested).attest(0, 0), 1);
        checks.refuses(STATE, "attest(23, 7) again", lastAttested(8), x -> x.attest(23, 7));
    }

    private void attestRecalled() {
        checks.sentence("Promise 14", "Throws `UnsupportedOperationException` if the build is recalled");
        Consumer<Buildlots> first = Scenes.keys(2).andThen(Scenes.chain(24)).andThen(x -> x.recall(0));
        checks.refusesEach(UNSUPPORTED, "attest(#, 0), of a chain whose first one is marked", first,
                List.of(0, 1, 23), (x, build) -> x.attest(build, 0));
        Consumer<Buildlots> last = Scenes.keys(2).andThen(Scenes.chain(24)).andThen(x -> x.recall(23));
        checks.refuses(UNSUPPORTED, "attest(23, 0), marked", last, x -> x.attest(23, 0));
        checks.due("attest(22, 0), which a marked one uses", Scenes.line(last).attest(22, 0), 1);
        Buildlots x = Scenes.line(first);
        x.lift(0);
        checks.due("attest(23, 0), lifted", x.attest(23, 0), 1);
    }

    private void vouchesIs(Buildlots x, int build, int signer, String when, boolean want) {
        checks.sentence("Promise 15", "Returns true if so.");
        checks.due("vouches(" + build + ", " + signer + "), " + when, x.vouches(build, signer), want);
        checks.sentence("Promise 16", "Returns true if so.");
        checks.due("vouchesByList(" + build + ", " + signer + "), " + when, x.vouchesByList(build, signer), want);
    }

    private void vouchesTrue() {
        Buildlots x = Scenes.line(keysAndBuilds(8, 24));
        for (int signer = 0; signer < 4; signer++) {
            vouchesIs(x, 0, signer, "without attestations", false);
        }
        x.attest(0, 0);
        x.attest(23, 3);
        x.attest(23, 7);
        vouchesIs(x, 0, 0, "the only one", true);
        vouchesIs(x, 0, 1, "beside it", false);
        vouchesIs(x, 22, 3, "for the build ahead", false);
        vouchesIs(x, 23, 3, "with two keys", true);
        x.loseKey(3);
        vouchesIs(x, 23, 3, "with the one that is left", true);
        x.pass(10);
        vouchesIs(x, 23, 3, "on its last day", true);
        vouchesIs(x, 0, 0, "on its last day", true);
        x.extendKey(0, 11);
        x.pass(1);
        vouchesIs(x, 23, 3, "a day later", false);
        vouchesIs(x, 0, 0, "a day later, extended", true);
        x.pass(1);
        vouchesIs(x, 0, 0, "a day past the later last day", false);
    }

    private void vouchesNoBuild() {
        for (int count : new int[] {0, 1, 24}) {
            checks.sentence("Promise 15", "Throws `IndexOutOfBoundsException` if there is no such build");
            checks.refusesEach(INDEX, "vouches(#, 0) of " + count, Scenes.builds(count),
                    Checks.notBetweenZeroAnd(count - 1), (x, build) -> x.vouches(build, 0));
            checks.sentence("Promise 16", "Throws `IndexOutOfBoundsException` if there is no such build");
            checks.refusesEach(INDEX, "vouchesByList(#, 0) of " + count, Scenes.builds(count),
                    Checks.notBetweenZeroAnd(count - 1), (x, build) -> x.vouchesByList(build, 0));
        }
        checks.due("vouchesByList(23, 0) of 24", Scenes.line(Scenes.builds(24)).vouchesByList(23, 0), false);
        checks.sentence("Promise 15", "Throws `IndexOutOfBoundsException` if there is no such build");
        checks.due("vouches(23, 0) of 24", Scenes.line(Scenes.builds(24)).vouches(23, 0), false);
    }

    private void vouchesNoSigner() {
        checks.sentence("Promise 15", "Throws `IllegalArgumentException` if there is no such signer");
        checks.refusesEach(ARGUMENT, "vouches(23, #)", lastAttested(8), Checks.notBetweenZeroAnd(3),
                (x, signer) -> x.vouches(23, signer));
        checks.due("vouches(23, 3)", Scenes.line(lastAttested(8)).vouches(23, 3), true);
        checks.sentence("Promise 16", "Throws `IllegalArgumentException` if there is no such signer");
        checks.refusesEach(ARGUMENT, "vouchesByList(23, #)", lastAttested(8), Checks.notBetweenZeroAnd(3),
                (x, signer) -> x.vouchesByList(23, signer));
        checks.due("vouchesByList(23, 3)", Scenes.line(lastAttested(8)).vouchesByList(23, 3), true);
    }

    private static Buildlots weighed(int weight) {
        Buildlots x = Scenes.line(lastAttested(4));
        for (int signer = 0; signer < 4; signer++) {
            x.setWeight(signer, weight);
        }
        return x;
    }

    private void scoreNumber() {
        checks.sentence("Promise 17", "Returns the score.");
        checks.due("score(0), without vouchers", Scenes.line(Scenes.builds(1)).score(0), 0.0f);
        checks.due("score(23), of the weights 0", weighed(0).score(23), 0.0f);
        checks.due("score(23), of the weights 1", weighed(1).score(23), 0.04f);
        checks.due("score(23), of the weights 100", weighed(100).score(23), 4.0f);
        checks.due("score(22), which was not attested", weighed(100).score(22), 0.0f);
    }

    private void scoreNoBuild() {
        checks.sentence("Promise 17", "Throws `IndexOutOfBoundsException` if there is no such build");
        noBuild("score(#)", (x, build) -> x.score(build));
        checks.due("score(23) of 24", Scenes.line(Scenes.trusted(24)).score(23), 1.0f);
    }

    private void scoreBitsNumber() {
        checks.sentence("Promise 18", "Returns the bits.");
        checks.due("scoreBits(0), without vouchers", Scenes.line(Scenes.builds(1)).scoreBits(0), 0);
        checks.due("scoreBits(23), of the weights 0", weighed(0).scoreBits(23), 0);
        checks.due("scoreBits(23), of the weights 100", weighed(100).scoreBits(23), 0x40800000);
        for (int hundredths = 0; hundredths <= 400; hundredths++) {
            Buildlots x = Scenes.line(lastAttested(4));
            float want = 0.0f;
            for (int signer = 0; signer < 4; signer++) {
                int weight = Math.max(0, Math.min(100, hundredths - 100 * signer));
                x.setWeight(signer, weight);
                want = want + (float) weight / 100.0f;
            }
            checks.due("scoreBits(23), of " + hundredths, x.scoreBits(23), Float.floatToIntBits(want));
        }
        Buildlots y = Scenes.line(Scenes.keys(1).andThen(Scenes.builds(1)));
        y.attest(0, 0);
        y.setWeight(0, 1);
        checks.due("scoreBits(0), of the least weight above 0", y.scoreBits(0), 0x3c23d70a);
    }

    private void scoreBitsNoBuild() {
        checks.sentence("Promise 18", "Throws `IndexOutOfBoundsException` if there is no such build");
        noBuild("scoreBits(#)", (x, build) -> x.scoreBits(build));
        checks.due("scoreBits(23) of 24", Scenes.line(Scenes.trusted(24)).scoreBits(23), 0x3f800000);
    }

    private void noBuild(String call, Checks.Numbered ask) {
        for (int count : new int[] {0, 1, 24}) {
            checks.refusesEach(INDEX, call + " of " + count, Scenes.trusted(count),
                    Checks.notBetweenZeroAnd(count - 1), ask);
        }
    }

    private void isTrustedTrue() {
        checks.sentence("Promise 19", "Returns true if so.");
        for (int weight : new int[] {1, 25, 50, 99, 100}) {
            Buildlots x = Scenes.line(Scenes.keys(1).andThen(Scenes.builds(1)));
            x.setWeight(0, weight);
            x.setThreshold(0, weight);
            checks.due("isTrusted(0), without vouchers", x.isTrusted(0), false);
            x.attest(0, 0);
            checks.due("isTrusted(0), as much as " + weight, x.isTrusted(0), true);
            x.setWeight(0, weight - 1);
            checks.due("isTrusted(0), a hundredth less than " + weight, x.isTrusted(0), false);
        }
        Buildlots y = weighed(100);
        y.setThreshold(3, 400);
        checks.due("isTrusted(23), with the most for the most", y.isTrusted(23), true);
        y.setWeight(3, 99);
        checks.due("isTrusted(23), with a hundredth less", y.isTrusted(23), false);
    }

    private void isTrustedNoBuild() {
        checks.sentence("Promise 19", "Throws `IndexOutOfBoundsException` if there is no such build");
        noBuild("isTrusted(#)", (x, build) -> x.isTrusted(build));
        checks.due("isTrusted(23) of 24", Scenes.line(Scenes.trusted(24)).isTrusted(23), true);
    }

    private void hangsOnKeyNumber() {
        checks.sentence("Promise 20", "Returns the number of builds.");
        checks.due("hangsOnKey(0), without builds", Scenes.line(Scenes.keys(1)).hangsOnKey(0), 0);
        Buildlots x = Scenes.line(Scenes.trusted(24));
        checks.due("hangsOnKey(0), of 24", x.hangsOnKey(0), 24);
        x.setThreshold(4, 50);
        checks.due("hangsOnKey(0), with half enough for 4 of them", x.hangsOnKey(0), 20);
        x.setWeight(0, 49);
        checks.due("hangsOnKey(0), with too little for the 20", x.hangsOnKey(0), 0);
        x.setWeight(0, 50);
        x.addKey(0, 0, 9);
        x.attest(23, 2);
        checks.due("hangsOnKey(0), with another key of the signer for one", x.hangsOnKey(0), 19);
        x.loseKey(0);
        checks.due("hangsOnKey(0), lost", x.hangsOnKey(0), 0);
        checks.due("hangsOnKey(1), with the 4 and the one left", x.hangsOnKey(1), 5);
        x.setWeight(0, 0);
        x.setWeight(1, 100);
        checks.due("hangsOnKey(2), of a signer without weight", x.hangsOnKey(2), 0);
        checks.due("hangsOnKey(1), with all weight", x.hangsOnKey(1), 24);
        x.pass(11);
        checks.due("hangsOnKey(1), past", x.hangsOnKey(1), 0);
    }

    private void hangsOnKeyNoKey() {
        checks.sentence("Promise 20", "Throws `IndexOutOfBoundsException` if there is no such key");
        for (int count : new int[] {0, 1, 8}) {
            checks.refusesEach(INDEX, "hangsOnKey(#) of " + count, keysAndBuilds(count, 1),
                    Checks.notBetweenZeroAnd(count - 1), (x, key) -> x.hangsOnKey(key));
        }
        checks.due("hangsOnKey(7) of 8", Scenes.line(Scenes.keys(8)).hangsOnKey(7), 0);
    }
}

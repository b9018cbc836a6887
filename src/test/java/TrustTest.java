/** Promises 14 to 20: trust. */
public final class TrustTest {
    private static final Class<IllegalArgumentException> ARGUMENT = IllegalArgumentException.class;
    private static final Class<IllegalStateException> STATE = IllegalStateException.class;
    private static final Class<IndexOutOfBoundsException> INDEX = IndexOutOfBoundsException.class;
    private static final Class<UnsupportedOperationException> UNSUPPORTED = UnsupportedOperationException.class;
    private static final Checks CHECKS = new Checks("TrustTest");

    public static void main(String[] args) {
        attest();
        attestRefuses();
        vouches();
        vouchesRefuses();
        scores();
        scoreOfEachWeight();
        scoreRefuses();
        isTrusted();
        isTrustedByFloats();
        hangsOnKey();
        hangsOnKeyRefuses();
        fullLine();
        CHECKS.end();
    }

    /** The keys 0 to 3 are of the signers 0 to 3, the key 4 is of the signer 0 too, and 5 is not yet live. */
    private static void sixKeys(Buildlots x) {
        x.addKey(0, 0, 3);
        x.addKey(1, 0, 5);
        x.addKey(2, 0, 7);
        x.addKey(3, 0, 9);
        x.addKey(0, 0, 9);
        x.addKey(1, 2, 9);
        x.build(0, 0, 0);
        x.build(1, 1, 0);
    }

    private static void attest() {
        CHECKS.promise(14);
        Buildlots x = new Buildlots();
        sixKeys(x);
        CHECKS.due("attest(0, 0)", x.attest(0, 0), 1);
        CHECKS.due("attest(0, 3)", x.attest(0, 3), 2);
        CHECKS.due("attest(1, 0), of another build", x.attest(1, 0), 1);
        CHECKS.due("attest(0, 4), of the same signer", x.attest(0, 4), 3);
        x.pass(2);
        CHECKS.due("attest(0, 5), on its first day", x.attest(0, 5), 4);
        x.loseKey(3);
        x.pass(3);
        CHECKS.due("attest(0, 1), on its last day", x.attest(0, 1), 5);
        CHECKS.due("score(0)", x.score(0), 1.0f);
    }

    private static void attestRefuses() {
        CHECKS.promise(14);
        for (int build : Checks.notBetweenZeroAnd(1)) {
            CHECKS.refuses(INDEX, "attest(" + build + ", 0)", TrustTest::sixKeys, x -> x.attest(build, 0));
        }
        for (int key : Checks.notBetweenZeroAnd(5)) {
            CHECKS.refuses(INDEX, "attest(0, " + key + ")", TrustTest::sixKeys, x -> x.attest(0, key));
        }
        CHECKS.refuses(STATE, "attest(0, 5), not yet live", TrustTest::sixKeys, x -> x.attest(0, 5));
        CHECKS.refuses(STATE, "attest(0, 0), past", x -> {
            sixKeys(x);
            x.pass(4);
        }, x -> x.attest(0, 0));
        CHECKS.refuses(STATE, "attest(0, 0), lost", x -> {
            sixKeys(x);
            x.loseKey(0);
        }, x -> x.attest(0, 0));
        CHECKS.refuses(STATE, "attest(0, 0), again", x -> {
            sixKeys(x);
            x.attest(0, 0);
        }, x -> x.attest(0, 0));
        CHECKS.refuses(UNSUPPORTED, "attest(0, 0), marked", TrustTest::recalled, x -> x.attest(0, 0));
        CHECKS.refuses(UNSUPPORTED, "attest(1, 0), recalled by its input", TrustTest::recalled, x -> x.attest(1, 0));
        CHECKS.refuses(STATE, "attest(1, 5), recalled and not live", TrustTest::recalled, x -> x.attest(1, 5));
        CHECKS.refuses(STATE, "attest(1, 2), recalled and again", TrustTest::recalled, x -> x.attest(1, 2));
    }

    private static void recalled(Buildlots x) {
        sixKeys(x);
        x.attest(1, 2);
        x.recall(0);
    }

    private static void vouches() {
        Buildlots x = new Buildlots();
        sixKeys(x);
        x.attest(0, 0);
        x.attest(0, 1);
        x.attest(0, 4);
        x.attest(1, 2);
        vouchersAre(x, 0, 1 + 2);
        vouchersAre(x, 1, 4);
        x.pass(3);
        vouchersAre(x, 0, 1 + 2);
        x.pass(1);
        vouchersAre(x, 0, 1 + 2);
        x.attest(1, 5);
        vouchersAre(x, 1, 2 + 4);
        x.pass(2);
        vouchersAre(x, 0, 1);
        vouchersAre(x, 1, 2 + 4);
        x.extendKey(2, 8);
        x.recall(0);
        x.pass(2);
        vouchersAre(x, 0, 1);
        vouchersAre(x, 1, 2 + 4);
        x.loseKey(4);
        vouchersAre(x, 0, 0);
        x.pass(1);
        vouchersAre(x, 1, 2);
    }

    private static void vouchersAre(Buildlots x, int build, int signers) {
        for (int signer = 0; signer < 4; signer++) {
            boolean want = (signers >> signer) % 2 == 1;
            CHECKS.promise(15);
            CHECKS.due("vouches(" + build + ", " + signer + ") on day " + x.day(), x.vouches(build, signer), want);
            CHECKS.promise(16);
            CHECKS.due("vouchesByList(" + build + ", " + signer + ") on day " + x.day(),
                    x.vouchesByList(build, signer), want);
        }
    }

    private static void vouchesRefuses() {
        for (int build : Checks.notBetweenZeroAnd(1)) {
            for (int signer : new int[] {0, 4}) {
                CHECKS.promise(15);
                CHECKS.refuses(INDEX, "vouches(" + build + ", " + signer + ")", TrustTest::sixKeys,
                        x -> x.vouches(build, signer));
                CHECKS.promise(16);
                CHECKS.refuses(INDEX, "vouchesByList(" + build + ", " + signer + ")", TrustTest::sixKeys,
                        x -> x.vouchesByList(build, signer));
            }
        }
        for (int signer : Checks.notBetweenZeroAnd(3)) {
            CHECKS.promise(15);
            CHECKS.refuses(ARGUMENT, "vouches(0, " + signer + ")", TrustTest::sixKeys, x -> x.vouches(0, signer));
            CHECKS.promise(16);
            CHECKS.refuses(ARGUMENT, "vouchesByList(0, " + signer + ")", TrustTest::sixKeys,
                    x -> x.vouchesByList(0, signer));
        }
    }

    private static void scoreIs(Buildlots x, int build, float want) {
        CHECKS.promise(17);
        CHECKS.due("score(" + build + ")", x.score(build), want);
        CHECKS.promise(18);
        CHECKS.due("scoreBits(" + build + ")", x.scoreBits(build), Float.floatToIntBits(want));
    }

    private static void scores() {
        Buildlots x = new Buildlots();
        sixKeys(x);
        scoreIs(x, 0, 0.0f);
        x.attest(0, 1);
        scoreIs(x, 0, 0.5f);
        x.attest(0, 0);
        x.attest(0, 4);
        scoreIs(x, 0, 1.0f);
        scoreIs(x, 1, 0.0f);
        x.setWeight(0, 0);
        scoreIs(x, 0, 0.5f);
        x.setWeight(1, 0);
        scoreIs(x, 0, 0.0f);
        x.attest(0, 2);
        x.attest(0, 3);
        for (int signer = 0; signer < 4; signer++) {
            x.setWeight(signer, 100);
        }
        scoreIs(x, 0, 4.0f);
        x.recall(0);
        scoreIs(x, 0, 4.0f);
        x.pass(4);
        scoreIs(x, 0, 4.0f);
        x.pass(2);
        scoreIs(x, 0, 3.0f);
        x.pass(4);
        scoreIs(x, 0, 0.0f);
    }

    /** Each step rounds to float, in the order of the signers whatever the order of the attestations. */
    private static void scoreOfEachWeight() {
        for (int weight = 0; weight <= 100; weight++) {
            Buildlots x = new Buildlots();
            sixKeys(x);
            int[] weights = {weight, (weight * 7 + 3) % 101, (weight * 13 + 1) % 101, (weight * 29 + 2) % 101};
            float want = 0.0f;
            for (int signer = 0; signer < 4; signer++) {
                x.setWeight(signer, weights[signer]);
                x.attest(0, 3 - signer);
                want = want + (float) weights[signer] / 100.0f;
            }
            x.attest(1, 0);
            scoreIs(x, 0, want);
            scoreIs(x, 1, (float) weight / 100.0f);
        }
    }

    private static void scoreRefuses() {
        for (int build : Checks.notBetweenZeroAnd(1)) {
            CHECKS.promise(17);
            CHECKS.refuses(INDEX, "score(" + build + ")", TrustTest::sixKeys, x -> x.score(build));
            CHECKS.promise(18);
            CHECKS.refuses(INDEX, "scoreBits(" + build + ")", TrustTest::sixKeys, x -> x.scoreBits(build));
            CHECKS.promise(19);
            CHECKS.refuses(INDEX, "isTrusted(" + build + ")", TrustTest::sixKeys, x -> x.isTrusted(build));
        }
    }

    private static void isTrusted() {
        CHECKS.promise(19);
        Buildlots x = new Buildlots();
        sixKeys(x);
        CHECKS.due("isTrusted(0), without vouchers", x.isTrusted(0), false);
        x.attest(0, 0);
        CHECKS.due("isTrusted(0), with one", x.isTrusted(0), false);
        x.attest(0, 4);
        CHECKS.due("isTrusted(0), with two keys of one", x.isTrusted(0), false);
        x.attest(0, 3);
        CHECKS.due("isTrusted(0), with two", x.isTrusted(0), true);
        x.setThreshold(0, 101);
        CHECKS.due("isTrusted(0), above the score", x.isTrusted(0), false);
        x.setThreshold(0, 100);
        x.recall(0);
        CHECKS.due("isTrusted(0), recalled", x.isTrusted(0), true);
        x.pass(4);
        CHECKS.due("isTrusted(0), with the other key of the signer", x.isTrusted(0), true);
        x.pass(6);
        CHECKS.due("isTrusted(0), past all keys", x.isTrusted(0), false);
    }

    /** In floats some sums of hundredths fall just below the quotient that they would equal in whole numbers. */
    private static void isTrustedByFloats() {
        CHECKS.promise(19);
        for (int weight = 0; weight <= 100; weight++) {
            Buildlots x = new Buildlots();
            sixKeys(x);
            x.attest(0, 0);
            x.attest(0, 1);
            x.attest(0, 2);
            x.setWeight(0, weight);
            x.setWeight(1, 11);
            x.setWeight(2, 23);
            x.setThreshold(0, weight + 34);
            float score = 0.0f + weight / 100.0f;
            score = score + 11 / 100.0f;
            score = score + 23 / 100.0f;
            CHECKS.due("isTrusted(0) at " + weight, x.isTrusted(0), score >= (weight + 34) / 100.0f);
        }
    }

    private static void hangsOnKey() {
        CHECKS.promise(20);
        Buildlots x = new Buildlots();
        sixKeys(x);
        x.attest(0, 0);
        CHECKS.due("hangsOnKey(0), with nothing trusted", x.hangsOnKey(0), 0);
        x.attest(0, 1);
        x.attest(1, 0);
        x.attest(1, 1);
        CHECKS.due("hangsOnKey(0)", x.hangsOnKey(0), 2);
        CHECKS.due("hangsOnKey(1)", x.hangsOnKey(1), 2);
        CHECKS.due("hangsOnKey(2), which attested nothing", x.hangsOnKey(2), 0);
        CHECKS.due("hangsOnKey(5), not yet live", x.hangsOnKey(5), 0);
        x.attest(0, 4);
        CHECKS.due("hangsOnKey(0), with a spare key for build 0", x.hangsOnKey(0), 1);
        CHECKS.due("hangsOnKey(4), with a spare key for build 0", x.hangsOnKey(4), 0);
        CHECKS.due("hangsOnKey(1), whose signer has no spare", x.hangsOnKey(1), 2);
        x.attest(1, 3);
        CHECKS.due("hangsOnKey(1), with a third signer for build 1", x.hangsOnKey(1), 1);
        x.setThreshold(1, 150);
        CHECKS.due("hangsOnKey(1), with a higher threshold", x.hangsOnKey(1), 2);
        x.recall(0);
        CHECKS.due("hangsOnKey(1), with both recalled", x.hangsOnKey(1), 2);
        x.setThreshold(1, 100);
        CHECKS.due("pass(4)", x.pass(4), 0);
        CHECKS.due("hangsOnKey(0), past", x.hangsOnKey(0), 0);
        CHECKS.due("hangsOnKey(4), now alone", x.hangsOnKey(4), 1);
        CHECKS.due("loseKey(4)", x.loseKey(4), 1);
        CHECKS.due("hangsOnKey(4), lost", x.hangsOnKey(4), 0);
    }

    private static void hangsOnKeyRefuses() {
        CHECKS.promise(20);
        for (int key : Checks.notBetweenZeroAnd(5)) {
            CHECKS.refuses(INDEX, "hangsOnKey(" + key + ")", TrustTest::sixKeys, x -> x.hangsOnKey(key));
        }
    }

    /** As many keys and builds as there may be: all builds are trusted by the signers of the keys 6 and 7 alone. */
    private static void fullLine() {
        CHECKS.promise(20);
        Buildlots x = new Buildlots();
        for (int key = 0; key < 8; key++) {
            x.addKey(key < 7 ? 2 : 3, 0, 9 + key);
        }
        for (int build = 0; build < 24; build++) {
            x.build(build % 5, 0, 0);
            x.attest(build, 6);
            x.attest(build, 7);
        }
        CHECKS.due("hangsOnKey(7) of all builds", x.hangsOnKey(7), 24);
        CHECKS.due("hangsOnKey(5), which attested nothing", x.hangsOnKey(5), 0);
        x.attest(23, 5);
        CHECKS.due("hangsOnKey(6), with a spare key for build 23", x.hangsOnKey(6), 23);
        CHECKS.promise(13);
        CHECKS.due("newest(3)", x.newest(3), 23);
        CHECKS.promise(31);
        CHECKS.due("pass(16)", x.pass(16), 24);
        CHECKS.promise(15);
        CHECKS.due("vouches(23, 2)", x.vouches(23, 2), false);
        CHECKS.due("vouches(23, 3)", x.vouches(23, 3), true);
    }
}

/** Promises 1 to 7: a new object, keys and weights. */
public final class KeysTest {
    private static final Class<IllegalArgumentException> ARGUMENT = IllegalArgumentException.class;
    private static final Class<IllegalStateException> STATE = IllegalStateException.class;
    private static final Class<IndexOutOfBoundsException> INDEX = IndexOutOfBoundsException.class;
    private static final Checks CHECKS = new Checks("KeysTest");

    public static void main(String[] args) {
        newObject();
        addKey();
        addKeyRefuses();
        loseKey();
        loseKeyRefuses();
        extendKey();
        extendKeyRefuses();
        isLive();
        setWeight();
        setThreshold();
        CHECKS.end();
    }

    private static void nothing(Buildlots x) {
    }

    private static void fullRing(Buildlots x) {
        for (int key = 0; key < 8; key++) {
            x.addKey(key % 4, 0, 100 + key);
        }
    }

    /** Builds 0 and 1 are trusted by the keys 0 and 1, build 2 by the keys 0, 1 and 2, of which 2 is spare. */
    private static void attestedBuilds(Buildlots x) {
        x.addKey(0, 0, 10);
        x.addKey(1, 0, 20);
        x.addKey(1, 0, 30);
        x.build(0, 0, 7);
        x.build(1, 0, 7);
        x.build(2, 0, 7);
        x.build(3, 0, 7);
        for (int build = 0; build < 3; build++) {
            x.attest(build, 0);
            x.attest(build, 1);
        }
        x.attest(2, 2);
        x.attest(3, 0);
    }

    private static void newObject() {
        CHECKS.promise(1);
        Buildlots x = new Buildlots();
        CHECKS.due("day()", x.day(), 0);
        CHECKS.due("scoreSumBits()", x.scoreSumBits(), 0L);
        CHECKS.due("setExpiry(9)", x.setExpiry(9), 7);
        for (int signer = 0; signer < 4; signer++) {
            CHECKS.due("setWeight(" + signer + ", 1)", x.setWeight(signer, 1), 50);
        }
        for (int name = 0; name < 5; name++) {
            CHECKS.due("setThreshold(" + name + ", 1)", x.setThreshold(name, 1), 100);
        }
        CHECKS.refuses(INDEX, "isLive(0)", KeysTest::nothing, y -> y.isLive(0));
        CHECKS.refuses(INDEX, "nameOf(0)", KeysTest::nothing, y -> y.nameOf(0));
        CHECKS.refuses(INDEX, "isExpired(0)", KeysTest::nothing, y -> y.isExpired(0));
        Buildlots other = new Buildlots();
        CHECKS.due("addKey on one line", x.addKey(0, 0, 0), 0);
        CHECKS.due("addKey on another line", other.addKey(0, 0, 0), 0);
        CHECKS.due("setWeight on another line", other.setWeight(0, 3), 50);
    }

    private static void addKey() {
        CHECKS.promise(2);
        Buildlots x = new Buildlots();
        CHECKS.due("addKey(0, 0, 0)", x.addKey(0, 0, 0), 0);
        CHECKS.due("addKey(3, 999, 999)", x.addKey(3, 999, 999), 1);
        CHECKS.due("addKey(1, 0, 999)", x.addKey(1, 0, 999), 2);
        x.pass(5);
        CHECKS.due("addKey(2, 5, 5)", x.addKey(2, 5, 5), 3);
        CHECKS.due("addKey(2, 6, 9)", x.addKey(2, 6, 9), 4);
        x.addKey(0, 5, 9);
        x.addKey(0, 5, 9);
        CHECKS.due("addKey as the eighth", x.addKey(0, 5, 9), 7);
        x.build(0, 0, 7);
        x.attest(0, 3);
        for (int signer = 0; signer < 4; signer++) {
            CHECKS.due("vouches(0, " + signer + ")", x.vouches(0, signer), signer == 2);
        }
    }

    private static void addKeyRefuses() {
        CHECKS.promise(2);
        for (int signer : Checks.notBetweenZeroAnd(3)) {
            CHECKS.refuses(ARGUMENT, "addKey(" + signer + ", 0, 5)", KeysTest::nothing, x -> x.addKey(signer, 0, 5));
        }
        CHECKS.refuses(ARGUMENT, "addKey(0, -1, 5)", KeysTest::nothing, x -> x.addKey(0, -1, 5));
        CHECKS.refuses(ARGUMENT, "addKey(0, 5, 4)", KeysTest::nothing, x -> x.addKey(0, 5, 4));
        CHECKS.refuses(ARGUMENT, "addKey(0, 0, 1000)", KeysTest::nothing, x -> x.addKey(0, 0, 1000));
        CHECKS.refuses(ARGUMENT, "addKey(0, 1000, 1000)", KeysTest::nothing, x -> x.addKey(0, 1000, 1000));
        CHECKS.refuses(ARGUMENT, "addKey(0, 0, MAX)", KeysTest::nothing, x -> x.addKey(0, 0, Integer.MAX_VALUE));
        CHECKS.refuses(ARGUMENT, "addKey(0, MIN, 5)", KeysTest::nothing, x -> x.addKey(0, Integer.MIN_VALUE, 5));
        CHECKS.refuses(ARGUMENT, "addKey(0, 2, 9) on day 3", x -> x.pass(3), x -> x.addKey(0, 2, 9));
        CHECKS.refuses(STATE, "addKey as the ninth", KeysTest::fullRing, x -> x.addKey(0, 0, 5));
        CHECKS.refuses(ARGUMENT, "addKey of no signer as the ninth", KeysTest::fullRing, x -> x.addKey(4, 0, 5));
        CHECKS.refuses(ARGUMENT, "addKey of no span as the ninth", KeysTest::fullRing, x -> x.addKey(0, 5, 4));
    }

    private static void loseKey() {
        CHECKS.promise(3);
        Buildlots x = new Buildlots();
        attestedBuilds(x);
        CHECKS.due("loseKey(1), where 2 is spare for build 2", x.loseKey(1), 2);
        CHECKS.due("isTrusted(0)", x.isTrusted(0), false);
        CHECKS.due("isTrusted(2)", x.isTrusted(2), true);
        CHECKS.due("vouches(0, 1)", x.vouches(0, 1), false);
        CHECKS.due("vouches(2, 1)", x.vouches(2, 1), true);
        CHECKS.due("isLive(1)", x.isLive(1), false);
        CHECKS.due("loseKey(0)", x.loseKey(0), 1);
        CHECKS.due("loseKey(2), with nothing trusted", x.loseKey(2), 0);
        for (int key = 0; key < 3; key++) {
            CHECKS.due("isLive(" + key + "), with all lost", x.isLive(key), false);
        }
        loseKeyThatIsNotLive();
        loseKeyOfRecalledBuild();
    }

    private static void loseKeyThatIsNotLive() {
        Buildlots x = new Buildlots();
        attestedBuilds(x);
        x.addKey(3, 12, 20);
        CHECKS.due("loseKey(3), ahead of its first day", x.loseKey(3), 0);
        CHECKS.due("pass(12), past the last day of key 0", x.pass(12), 3);
        CHECKS.due("isLive(3), which was lost ahead of its span", x.isLive(3), false);
        CHECKS.due("loseKey(0), past its last day", x.loseKey(0), 0);
    }

    private static void loseKeyOfRecalledBuild() {
        Buildlots x = new Buildlots();
        attestedBuilds(x);
        x.recall(0);
        CHECKS.due("loseKey(0), with a trusted build recalled", x.loseKey(0), 3);
        Buildlots y = new Buildlots();
        attestedBuilds(y);
        y.setWeight(0, 0);
        y.setWeight(1, 100);
        CHECKS.due("loseKey(0), of a signer without weight", y.loseKey(0), 0);
    }

    private static void loseKeyRefuses() {
        CHECKS.promise(3);
        for (int key : Checks.notBetweenZeroAnd(2)) {
            CHECKS.refuses(INDEX, "loseKey(" + key + ")", KeysTest::attestedBuilds, x -> x.loseKey(key));
        }
        CHECKS.refuses(INDEX, "loseKey(8)", KeysTest::fullRing, x -> x.loseKey(8));
        CHECKS.refuses(STATE, "loseKey(1) again", x -> {
            attestedBuilds(x);
            x.loseKey(1);
        }, x -> x.loseKey(1));
    }

    private static void extendKey() {
        CHECKS.promise(4);
        Buildlots x = new Buildlots();
        attestedBuilds(x);
        CHECKS.due("extendKey(0, 11)", x.extendKey(0, 11), 10);
        x.pass(11);
        CHECKS.due("isLive(0) on its last day", x.isLive(0), true);
        CHECKS.due("isTrusted(0)", x.isTrusted(0), true);
        CHECKS.due("extendKey(0, 12) on its last day", x.extendKey(0, 12), 11);
        CHECKS.due("extendKey(2, 999)", x.extendKey(2, 999), 30);
        CHECKS.due("pass(1)", x.pass(1), 0);
        CHECKS.due("isLive(0) on the later last day", x.isLive(0), true);
        CHECKS.due("pass(1)", x.pass(1), 3);
        CHECKS.due("isLive(0) past it", x.isLive(0), false);
        x.addKey(3, 50, 60);
        CHECKS.due("extendKey(3, 61) ahead of its first day", x.extendKey(3, 61), 60);
        CHECKS.due("isLive(3) ahead of its first day", x.isLive(3), false);
    }

    private static void extendKeyRefuses() {
        CHECKS.promise(4);
        for (int key : Checks.notBetweenZeroAnd(2)) {
            CHECKS.refuses(INDEX, "extendKey(" + key + ", 40)", KeysTest::attestedBuilds, x -> x.extendKey(key, 40));
            CHECKS.refuses(INDEX, "extendKey(" + key + ", 0)", KeysTest::attestedBuilds, x -> x.extendKey(key, 0));
        }
        for (int last : new int[] {10, 9, 0, -1, 1000, Integer.MIN_VALUE, Integer.MAX_VALUE}) {
            CHECKS.refuses(ARGUMENT, "extendKey(0, " + last + ")", KeysTest::attestedBuilds, x -> x.extendKey(0, last));
            CHECKS.refuses(ARGUMENT, "extendKey(0, " + last + ") of a lost key", KeysTest::lostKey,
                    x -> x.extendKey(0, last));
            CHECKS.refuses(ARGUMENT, "extendKey(0, " + last + ") of a past key", KeysTest::pastKey,
                    x -> x.extendKey(0, last));
        }
        CHECKS.refuses(STATE, "extendKey(0, 11) of a lost key", KeysTest::lostKey, x -> x.extendKey(0, 11));
        CHECKS.refuses(STATE, "extendKey(0, 11) of a past key", KeysTest::pastKey, x -> x.extendKey(0, 11));
        CHECKS.refuses(STATE, "extendKey(0, 999) of a past key", KeysTest::pastKey, x -> x.extendKey(0, 999));
    }

    private static void lostKey(Buildlots x) {
        attestedBuilds(x);
        x.loseKey(0);
    }

    private static void pastKey(Buildlots x) {
        attestedBuilds(x);
        x.pass(11);
    }

    private static void isLive() {
        CHECKS.promise(5);
        Buildlots x = new Buildlots();
        x.addKey(0, 2, 4);
        x.addKey(1, 0, 0);
        boolean[] liveOnDay = {false, false, true, true, true, false, false};
        for (int day = 0; day < liveOnDay.length; day++) {
            CHECKS.due("isLive(0) on day " + day, x.isLive(0), liveOnDay[day]);
            CHECKS.due("isLive(1) on day " + day, x.isLive(1), day == 0);
            x.pass(1);
        }
        Buildlots y = new Buildlots();
        y.addKey(0, 0, 4);
        y.addKey(0, 0, 4);
        y.loseKey(1);
        CHECKS.due("isLive(0) beside a lost key", y.isLive(0), true);
        CHECKS.due("isLive(1) of a lost key", y.isLive(1), false);
        for (int key : Checks.notBetweenZeroAnd(2)) {
            CHECKS.refuses(INDEX, "isLive(" + key + ")", KeysTest::attestedBuilds, z -> z.isLive(key));
        }
        CHECKS.refuses(INDEX, "isLive(8)", KeysTest::fullRing, z -> z.isLive(8));
    }

    private static void setWeight() {
        CHECKS.promise(6);
        Buildlots x = new Buildlots();
        attestedBuilds(x);
        CHECKS.due("setWeight(1, 49)", x.setWeight(1, 49), 50);
        CHECKS.due("isTrusted(0)", x.isTrusted(0), false);
        CHECKS.due("setWeight(1, 100)", x.setWeight(1, 100), 49);
        CHECKS.due("setWeight(0, 0)", x.setWeight(0, 0), 50);
        CHECKS.due("score(0)", x.score(0), 1.0f);
        CHECKS.due("setWeight(0, 0) again", x.setWeight(0, 0), 0);
        CHECKS.due("setWeight(2, 7)", x.setWeight(2, 7), 50);
        CHECKS.due("setWeight(3, 8)", x.setWeight(3, 8), 50);
        CHECKS.due("score(0), which they do not vouch for", x.score(0), 1.0f);
        for (int number : Checks.notBetweenZeroAnd(3)) {
            CHECKS.refuses(ARGUMENT, "setWeight(" + number + ", 5)", KeysTest::nothing, y -> y.setWeight(number, 5));
        }
        for (int weight : Checks.notBetweenZeroAnd(100)) {
            CHECKS.refuses(ARGUMENT, "setWeight(0, " + weight + ")", KeysTest::nothing, y -> y.setWeight(0, weight));
        }
    }

    private static void setThreshold() {
        CHECKS.promise(7);
        Buildlots x = new Buildlots();
        attestedBuilds(x);
        CHECKS.due("setThreshold(0, 101)", x.setThreshold(0, 101), 100);
        CHECKS.due("isTrusted(0)", x.isTrusted(0), false);
        CHECKS.due("isTrusted(1), of another name", x.isTrusted(1), true);
        CHECKS.due("setThreshold(0, 1)", x.setThreshold(0, 1), 101);
        CHECKS.due("setThreshold(0, 400)", x.setThreshold(0, 400), 1);
        CHECKS.due("setThreshold(4, 2)", x.setThreshold(4, 2), 100);
        CHECKS.due("setThreshold(4, 3)", x.setThreshold(4, 3), 2);
        for (int number : Checks.notBetweenZeroAnd(4)) {
            CHECKS.refuses(ARGUMENT, "setThreshold(" + number + ", 5)", KeysTest::nothing,
                    y -> y.setThreshold(number, 5));
        }
        for (int threshold : new int[] {0, -1, 401, Integer.MIN_VALUE, Integer.MAX_VALUE}) {
            CHECKS.refuses(ARGUMENT, "setThreshold(0, " + threshold + ")", KeysTest::nothing,
                    y -> y.setThreshold(0, threshold));
        }
    }
}

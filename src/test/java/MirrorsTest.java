import java.util.NoSuchElementException;

/** Promises 26 to 33: mirrors, clients and days. */
public final class MirrorsTest {
    private static final Class<IllegalArgumentException> ARGUMENT = IllegalArgumentException.class;
    private static final Class<IllegalStateException> STATE = IllegalStateException.class;
    private static final Class<IndexOutOfBoundsException> INDEX = IndexOutOfBoundsException.class;
    private static final Class<UnsupportedOperationException> UNSUPPORTED = UnsupportedOperationException.class;
    private static final Class<NoSuchElementException> NO_ELEMENT = NoSuchElementException.class;
    private static final Checks CHECKS = new Checks("MirrorsTest");

    public static void main(String[] args) {
        addMirror();
        update();
        isExpired();
        setExpiry();
        install();
        installByOldList();
        installRefuses();
        pass();
        passRefuses();
        day();
        scoreSumBits();
        CHECKS.end();
    }

    private static void nothing(Buildlots x) {
    }

    /** The builds 0, 1 and 2 of the name 0 are trusted until day 50 is past, 2 uses 0; build 3 is of the name 1. */
    private static void trusted(Buildlots x) {
        x.addKey(0, 0, 50);
        x.addKey(1, 0, 60);
        x.build(0, 0, 7);
        x.build(0, 0, 7);
        x.build(0, 1, 7);
        x.build(1, 0, 7);
        for (int build = 0; build < 3; build++) {
            x.attest(build, 0);
            x.attest(build, 1);
        }
        x.addMirror();
        x.addMirror();
        x.update(0);
    }

    private static void threeMirrors(Buildlots x) {
        x.addMirror();
        x.addMirror();
        x.addMirror();
    }

    private static void addMirror() {
        CHECKS.promise(26);
        Buildlots x = new Buildlots();
        CHECKS.due("addMirror()", x.addMirror(), 0);
        CHECKS.due("addMirror() again", x.addMirror(), 1);
        CHECKS.due("addMirror() as the third", x.addMirror(), 2);
        CHECKS.due("isExpired(2)", x.isExpired(2), true);
        CHECKS.refuses(STATE, "addMirror() as the fourth", MirrorsTest::threeMirrors, y -> y.addMirror());
    }

    private static void update() {
        CHECKS.promise(27);
        Buildlots x = new Buildlots();
        x.addMirror();
        x.addMirror();
        CHECKS.due("update(1), without builds", x.update(1), 0);
        CHECKS.due("isExpired(1)", x.isExpired(1), false);
        CHECKS.due("isExpired(0), of another mirror", x.isExpired(0), true);
        x.build(0, 0, 0);
        x.build(0, 1, 0);
        CHECKS.due("update(0)", x.update(0), 2);
        x.recall(0);
        CHECKS.due("update(0), with both recalled", x.update(0), 2);
        for (int build = 2; build < 24; build++) {
            x.build(1, 0, 0);
        }
        CHECKS.due("update(0), with all builds", x.update(0), 24);
        for (int mirror : Checks.notBetweenZeroAnd(1)) {
            CHECKS.refuses(INDEX, "update(" + mirror + ")", MirrorsTest::trusted, y -> y.update(mirror));
        }
        CHECKS.refuses(INDEX, "update(3)", MirrorsTest::threeMirrors, y -> y.update(3));
    }

    private static void isExpired() {
        CHECKS.promise(28);
        Buildlots x = new Buildlots();
        trusted(x);
        CHECKS.due("isExpired(0), just up to date", x.isExpired(0), false);
        CHECKS.due("isExpired(1), never up to date", x.isExpired(1), true);
        x.pass(7);
        CHECKS.due("isExpired(0), after 7 days", x.isExpired(0), false);
        x.pass(1);
        CHECKS.due("isExpired(0), after 8 days", x.isExpired(0), true);
        x.update(0);
        CHECKS.due("isExpired(0), up to date again", x.isExpired(0), false);
        x.pass(7);
        CHECKS.due("isExpired(0), after 7 days more", x.isExpired(0), false);
        x.pass(1);
        CHECKS.due("isExpired(0), after 8 days more", x.isExpired(0), true);
        x.setExpiry(99);
        CHECKS.due("isExpired(1), never up to date", x.isExpired(1), true);
        for (int mirror : Checks.notBetweenZeroAnd(1)) {
            CHECKS.refuses(INDEX, "isExpired(" + mirror + ")", MirrorsTest::trusted, y -> y.isExpired(mirror));
        }
    }

    private static void setExpiry() {
        CHECKS.promise(29);
        Buildlots x = new Buildlots();
        trusted(x);
        CHECKS.due("setExpiry(0)", x.setExpiry(0), 7);
        CHECKS.due("isExpired(0), on the day itself", x.isExpired(0), false);
        x.pass(1);
        CHECKS.due("isExpired(0), a day later", x.isExpired(0), true);
        CHECKS.due("setExpiry(1)", x.setExpiry(1), 0);
        CHECKS.due("isExpired(0), with a longer expiry", x.isExpired(0), false);
        CHECKS.due("setExpiry(99)", x.setExpiry(99), 1);
        x.pass(60);
        x.pass(38);
        CHECKS.due("isExpired(0), after 99 days", x.isExpired(0), false);
        x.pass(1);
        CHECKS.due("isExpired(0), after 100 days", x.isExpired(0), true);
        for (int days : Checks.notBetweenZeroAnd(99)) {
            CHECKS.refuses(ARGUMENT, "setExpiry(" + days + ")", MirrorsTest::trusted, y -> y.setExpiry(days));
        }
    }

    private static void install() {
        CHECKS.promise(30);
        Buildlots x = new Buildlots();
        trusted(x);
        CHECKS.due("install(0, 0)", x.install(0, 0), 2);
        x.attest(3, 0);
        x.attest(3, 1);
        CHECKS.due("install(0, 1), trusted after the list was made", x.install(0, 1), 3);
        x.loseKey(1);
        x.setThreshold(0, 50);
        CHECKS.due("install(0, 0), with half the score enough", x.install(0, 0), 2);
        x.pass(7);
        CHECKS.due("install(0, 0), on the last day of the list", x.install(0, 0), 2);
        Buildlots y = new Buildlots();
        trusted(y);
        y.setThreshold(0, 150);
        y.addKey(2, 0, 50);
        y.attest(1, 2);
        CHECKS.due("install(0, 0), with a newer one not trusted", y.install(0, 0), 1);
    }

    private static void installByOldList() {
        CHECKS.promise(30);
        Buildlots x = new Buildlots();
        trusted(x);
        x.recall(2);
        CHECKS.due("install(0, 0), recalled after the list was made", x.install(0, 0), 2);
        x.update(0);
        CHECKS.due("install(0, 0), recalled in the list", x.install(0, 0), 1);
        x.lift(2);
        CHECKS.due("install(0, 0), lifted after the list was made", x.install(0, 0), 1);
        x.update(0);
        x.recall(0);
        x.update(1);
        CHECKS.due("install(0, 0), by the older list", x.install(0, 0), 2);
        CHECKS.due("install(1, 0), by the newer list", x.install(1, 0), 1);
        x.lift(0);
        x.build(0, 0, 7);
        x.attest(4, 0);
        x.attest(4, 1);
        CHECKS.due("newest(0)", x.newest(0), 4);
        CHECKS.due("install(0, 0), without the build made later", x.install(0, 0), 2);
        x.update(0);
        CHECKS.due("install(0, 0), with it", x.install(0, 0), 4);
    }

    private static void installRefuses() {
        CHECKS.promise(30);
        for (int mirror : Checks.notBetweenZeroAnd(1)) {
            for (int name : new int[] {0, 5}) {
                CHECKS.refuses(INDEX, "install(" + mirror + ", " + name + ")", MirrorsTest::trusted,
                        x -> x.install(mirror, name));
            }
        }
        for (int name : Checks.notBetweenZeroAnd(4)) {
            CHECKS.refuses(ARGUMENT, "install(0, " + name + ")", MirrorsTest::trusted, x -> x.install(0, name));
            CHECKS.refuses(ARGUMENT, "install(1, " + name + "), expired", MirrorsTest::trusted,
                    x -> x.install(1, name));
        }
        CHECKS.refuses(UNSUPPORTED, "install(1, 0), never up to date", MirrorsTest::trusted, x -> x.install(1, 0));
        CHECKS.refuses(UNSUPPORTED, "install(1, 4), of no build", MirrorsTest::trusted, x -> x.install(1, 4));
        CHECKS.refuses(UNSUPPORTED, "install(0, 0), expired", x -> {
            trusted(x);
            x.pass(8);
        }, x -> x.install(0, 0));
        CHECKS.refuses(NO_ELEMENT, "install(0, 1), not trusted", MirrorsTest::trusted, x -> x.install(0, 1));
        CHECKS.refuses(NO_ELEMENT, "install(0, 4), of no build", MirrorsTest::trusted, x -> x.install(0, 4));
        CHECKS.refuses(NO_ELEMENT, "install(0, 0), from an empty list", x -> {
            x.addMirror();
            x.update(0);
            trusted(x);
            x.recall(0);
            x.recall(1);
            x.update(0);
        }, x -> x.install(0, 0));
    }

    private static void pass() {
        CHECKS.promise(31);
        Buildlots x = new Buildlots();
        trusted(x);
        x.setThreshold(1, 50);
        x.attest(3, 1);
        CHECKS.due("pass(50), to the last day of key 0", x.pass(50), 0);
        CHECKS.due("pass(1), past it", x.pass(1), 3);
        CHECKS.due("pass(9), to the last day of key 1", x.pass(9), 0);
        CHECKS.due("pass(1), past it", x.pass(1), 1);
        CHECKS.due("pass(60), with nothing trusted", x.pass(60), 0);
        CHECKS.due("day()", x.day(), 121);
        Buildlots y = new Buildlots();
        trusted(y);
        y.recall(0);
        y.attest(3, 1);
        y.setThreshold(1, 50);
        CHECKS.due("pass(60), with two recalled", y.pass(60), 3);
        Buildlots z = new Buildlots();
        z.addKey(0, 5, 9);
        z.addKey(1, 2, 3);
        z.pass(3);
        CHECKS.due("isLive(0), ahead of its first day", z.isLive(0), false);
        z.pass(2);
        CHECKS.due("isLive(0), on its first day", z.isLive(0), true);
        CHECKS.due("isLive(1), past", z.isLive(1), false);
    }

    private static void lastDay(Buildlots x) {
        for (int step = 0; step < 16; step++) {
            x.pass(60);
        }
        x.pass(39);
    }

    private static void passRefuses() {
        CHECKS.promise(31);
        for (int days : new int[] {0, -1, 61, Integer.MIN_VALUE, Integer.MAX_VALUE}) {
            CHECKS.refuses(ARGUMENT, "pass(" + days + ")", MirrorsTest::trusted, x -> x.pass(days));
            CHECKS.refuses(ARGUMENT, "pass(" + days + ") on the last day", MirrorsTest::lastDay, x -> x.pass(days));
        }
        CHECKS.refuses(ARGUMENT, "pass(1) on the last day", MirrorsTest::lastDay, x -> x.pass(1));
        CHECKS.refuses(ARGUMENT, "pass(60) on the last day", MirrorsTest::lastDay, x -> x.pass(60));
        CHECKS.refuses(ARGUMENT, "pass(41) on day 959", x -> {
            for (int step = 0; step < 15; step++) {
                x.pass(60);
            }
            x.pass(59);
        }, x -> x.pass(41));
    }

    private static void day() {
        CHECKS.promise(32);
        Buildlots x = new Buildlots();
        CHECKS.due("day()", x.day(), 0);
        x.pass(1);
        CHECKS.due("day()", x.day(), 1);
        x.pass(60);
        CHECKS.due("day()", x.day(), 61);
        Checks.answer(x, y -> y.pass(61));
        CHECKS.due("day(), after a refused call", x.day(), 61);
        Buildlots z = new Buildlots();
        lastDay(z);
        CHECKS.due("day() on the last day", z.day(), 999);
        CHECKS.due("addKey(0, 999, 999)", z.addKey(0, 999, 999), 0);
        CHECKS.due("isLive(0)", z.isLive(0), true);
    }

    /** A score of 0.01f to 4.0f for each of up to 24 builds, whose sum needs more than the bits of a float. */
    private static void scoreSumBits() {
        CHECKS.promise(33);
        for (int weight = 0; weight <= 100; weight++) {
            Buildlots x = new Buildlots();
            for (int signer = 0; signer < 4; signer++) {
                x.addKey(signer, 0, 9);
                x.setWeight(signer, (weight * (signer + 1) + 3 * signer) % 101);
            }
            double sum = 0.0;
            for (int build = 0; build < 24; build++) {
                x.build(build % 5, 0, 0);
                for (int signer = 0; signer < 4; signer++) {
                    if ((build + 1 >> signer) % 2 == 1) {
                        x.attest(build, signer);
                    }
                }
                sum = sum + (double) x.score(build);
                CHECKS.due("scoreSumBits()", x.scoreSumBits(), Double.doubleToLongBits(sum));
            }
        }
        Buildlots x = new Buildlots();
        trusted(x);
        x.recall(0);
        CHECKS.due("scoreSumBits(), with recalled builds", x.scoreSumBits(), Double.doubleToLongBits(3.0));
        x.pass(51);
        CHECKS.due("scoreSumBits(), past a key", x.scoreSumBits(), Double.doubleToLongBits(1.5));
        x.loseKey(1);
        CHECKS.due("scoreSumBits(), past all keys", x.scoreSumBits(), 0L);
    }
}
